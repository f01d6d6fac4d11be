section
-- ===== PART A: goes FIRST, ahead of the names: the tables' words, and 'selects' of the private methods out of them =====
/-- a private method of a class that the tables say can be made, by its rows of tables_1 -/
def lw_okq (q : MethodName × Nat) : Prop := (q.1.cls ≠ "java/lang/invoke/MethodHandle" ∧ q.1.cls ≠ "java/lang/invoke/VarHandle") ∧ Cond.instantiable q.1.cls q.2 ∈ tables_1 ∧ Cond.privateMethod q.1 ∈ tables_1 ∧ Cond.instanceMethod q.1 ∈ tables_1
theorem lw_p0 : lw_okq (⟨"YoungerBack", "found", "(I)I"⟩, 15) := ⟨⟨by decide +kernel, by decide +kernel⟩, List.mem_of_getElem? (i := 19) (by decide +kernel), List.mem_of_getElem? (i := 281) (by decide +kernel), List.mem_of_getElem? (i := 282) (by decide +kernel)⟩
theorem lw_p1 : lw_okq (⟨"YoungerBack", "foundNothing", "(I)I"⟩, 15) := ⟨⟨by decide +kernel, by decide +kernel⟩, List.mem_of_getElem? (i := 19) (by decide +kernel), List.mem_of_getElem? (i := 286) (by decide +kernel), List.mem_of_getElem? (i := 287) (by decide +kernel)⟩
theorem lw_p2 : lw_okq (⟨"YoungerBack", "isMissing", "(I)Z"⟩, 15) := ⟨⟨by decide +kernel, by decide +kernel⟩, List.mem_of_getElem? (i := 19) (by decide +kernel), List.mem_of_getElem? (i := 294) (by decide +kernel), List.mem_of_getElem? (i := 295) (by decide +kernel)⟩
theorem lw_p3 : lw_okq (⟨"YoungerBack", "isBeyond", "(III)Z"⟩, 15) := ⟨⟨by decide +kernel, by decide +kernel⟩, List.mem_of_getElem? (i := 19) (by decide +kernel), List.mem_of_getElem? (i := 298) (by decide +kernel), List.mem_of_getElem? (i := 299) (by decide +kernel)⟩
theorem lw_p4 : lw_okq (⟨"YoungerBack$Tape", "nextToken", "()V"⟩, 8) := ⟨⟨by decide +kernel, by decide +kernel⟩, List.mem_of_getElem? (i := 29) (by decide +kernel), List.mem_of_getElem? (i := 334) (by decide +kernel), List.mem_of_getElem? (i := 335) (by decide +kernel)⟩
theorem lw_p5 : lw_okq (⟨"YoungerBack$Tape", "isBetween", "(II)Z"⟩, 8) := ⟨⟨by decide +kernel, by decide +kernel⟩, List.mem_of_getElem? (i := 29) (by decide +kernel), List.mem_of_getElem? (i := 338) (by decide +kernel), List.mem_of_getElem? (i := 339) (by decide +kernel)⟩
theorem lw_p6 : lw_okq (⟨"YoungerBack$Tape", "passRun", "(II)V"⟩, 8) := ⟨⟨by decide +kernel, by decide +kernel⟩, List.mem_of_getElem? (i := 29) (by decide +kernel), List.mem_of_getElem? (i := 342) (by decide +kernel), List.mem_of_getElem? (i := 343) (by decide +kernel)⟩
theorem lw_p7 : lw_okq (⟨"YoungerBack$Tape", "readNumber", "()V"⟩, 8) := ⟨⟨by decide +kernel, by decide +kernel⟩, List.mem_of_getElem? (i := 29) (by decide +kernel), List.mem_of_getElem? (i := 346) (by decide +kernel), List.mem_of_getElem? (i := 347) (by decide +kernel)⟩
theorem lw_p8 : lw_okq (⟨"YoungerBack$Tape", "takeWord", "(Ljava/lang/String;)V"⟩, 8) := ⟨⟨by decide +kernel, by decide +kernel⟩, List.mem_of_getElem? (i := 29) (by decide +kernel), List.mem_of_getElem? (i := 351) (by decide +kernel), List.mem_of_getElem? (i := 352) (by decide +kernel)⟩
theorem lw_p9 : lw_okq (⟨"YoungerBack$Tape", "isWord", "(Ljava/lang/String;)Z"⟩, 8) := ⟨⟨by decide +kernel, by decide +kernel⟩, List.mem_of_getElem? (i := 29) (by decide +kernel), List.mem_of_getElem? (i := 355) (by decide +kernel), List.mem_of_getElem? (i := 356) (by decide +kernel)⟩
theorem lw_p10 : lw_okq (⟨"YoungerBack$Tape", "fail", "(I)V"⟩, 8) := ⟨⟨by decide +kernel, by decide +kernel⟩, List.mem_of_getElem? (i := 29) (by decide +kernel), List.mem_of_getElem? (i := 407) (by decide +kernel), List.mem_of_getElem? (i := 408) (by decide +kernel)⟩
theorem lw_p11 : lw_okq (⟨"YoungerBack$Tape", "takeNumber", "(III)I"⟩, 8) := ⟨⟨by decide +kernel, by decide +kernel⟩, List.mem_of_getElem? (i := 29) (by decide +kernel), List.mem_of_getElem? (i := 412) (by decide +kernel), List.mem_of_getElem? (i := 413) (by decide +kernel)⟩
theorem lw_p12 : lw_okq (⟨"YoungerBack$Tape", "takeSign", "()V"⟩, 8) := ⟨⟨by decide +kernel, by decide +kernel⟩, List.mem_of_getElem? (i := 29) (by decide +kernel), List.mem_of_getElem? (i := 417) (by decide +kernel), List.mem_of_getElem? (i := 418) (by decide +kernel)⟩
theorem lw_p13 : lw_okq (⟨"YoungerBack$Tape", "readWay", "(LYoungerBack$League;)V"⟩, 8) := ⟨⟨by decide +kernel, by decide +kernel⟩, List.mem_of_getElem? (i := 29) (by decide +kernel), List.mem_of_getElem? (i := 422) (by decide +kernel), List.mem_of_getElem? (i := 423) (by decide +kernel)⟩
theorem lw_p14 : lw_okq (⟨"YoungerBack$Tape", "readPerson", "(LYoungerBack$League;)V"⟩, 8) := ⟨⟨by decide +kernel, by decide +kernel⟩, List.mem_of_getElem? (i := 29) (by decide +kernel), List.mem_of_getElem? (i := 427) (by decide +kernel), List.mem_of_getElem? (i := 428) (by decide +kernel)⟩
theorem lw_p15 : lw_okq (⟨"YoungerBack$Tape", "takeSort", "()I"⟩, 8) := ⟨⟨by decide +kernel, by decide +kernel⟩, List.mem_of_getElem? (i := 29) (by decide +kernel), List.mem_of_getElem? (i := 431) (by decide +kernel), List.mem_of_getElem? (i := 432) (by decide +kernel)⟩
def lw_privs_1 : List (MethodName × Nat) := [(⟨"YoungerBack", "found", "(I)I"⟩, 15), (⟨"YoungerBack", "foundNothing", "(I)I"⟩, 15), (⟨"YoungerBack", "isMissing", "(I)Z"⟩, 15), (⟨"YoungerBack", "isBeyond", "(III)Z"⟩, 15), (⟨"YoungerBack$Tape", "nextToken", "()V"⟩, 8), (⟨"YoungerBack$Tape", "isBetween", "(II)Z"⟩, 8), (⟨"YoungerBack$Tape", "passRun", "(II)V"⟩, 8), (⟨"YoungerBack$Tape", "readNumber", "()V"⟩, 8), (⟨"YoungerBack$Tape", "takeWord", "(Ljava/lang/String;)V"⟩, 8), (⟨"YoungerBack$Tape", "isWord", "(Ljava/lang/String;)Z"⟩, 8), (⟨"YoungerBack$Tape", "fail", "(I)V"⟩, 8), (⟨"YoungerBack$Tape", "takeNumber", "(III)I"⟩, 8), (⟨"YoungerBack$Tape", "takeSign", "()V"⟩, 8), (⟨"YoungerBack$Tape", "readWay", "(LYoungerBack$League;)V"⟩, 8), (⟨"YoungerBack$Tape", "readPerson", "(LYoungerBack$League;)V"⟩, 8), (⟨"YoungerBack$Tape", "takeSort", "()I"⟩, 8)]
theorem lw_r1 : ∀ q ∈ lw_privs_1, lw_okq q := List.forall_mem_cons.mpr ⟨lw_p0, List.forall_mem_cons.mpr ⟨lw_p1, List.forall_mem_cons.mpr ⟨lw_p2, List.forall_mem_cons.mpr ⟨lw_p3, List.forall_mem_cons.mpr ⟨lw_p4, List.forall_mem_cons.mpr ⟨lw_p5, List.forall_mem_cons.mpr ⟨lw_p6, List.forall_mem_cons.mpr ⟨lw_p7, List.forall_mem_cons.mpr ⟨lw_p8, List.forall_mem_cons.mpr ⟨lw_p9, List.forall_mem_cons.mpr ⟨lw_p10, List.forall_mem_cons.mpr ⟨lw_p11, List.forall_mem_cons.mpr ⟨lw_p12, List.forall_mem_cons.mpr ⟨lw_p13, List.forall_mem_cons.mpr ⟨lw_p14, List.forall_mem_cons.mpr ⟨lw_p15, fun _ h => absurd h List.not_mem_nil⟩⟩⟩⟩⟩⟩⟩⟩⟩⟩⟩⟩⟩⟩⟩⟩
theorem lw_p16 : lw_okq (⟨"YoungerBack", "isNobody", "(I)Z"⟩, 15) := ⟨⟨by decide +kernel, by decide +kernel⟩, List.mem_of_getElem? (i := 19) (by decide +kernel), List.mem_of_getElem? (i := 473) (by decide +kernel), List.mem_of_getElem? (i := 474) (by decide +kernel)⟩
theorem lw_p17 : lw_okq (⟨"YoungerBack", "isNoWay", "(I)Z"⟩, 15) := ⟨⟨by decide +kernel, by decide +kernel⟩, List.mem_of_getElem? (i := 19) (by decide +kernel), List.mem_of_getElem? (i := 477) (by decide +kernel), List.mem_of_getElem? (i := 478) (by decide +kernel)⟩
theorem lw_p18 : lw_okq (⟨"YoungerBack", "sailOnce", "(II)I"⟩, 15) := ⟨⟨by decide +kernel, by decide +kernel⟩, List.mem_of_getElem? (i := 19) (by decide +kernel), List.mem_of_getElem? (i := 481) (by decide +kernel), List.mem_of_getElem? (i := 482) (by decide +kernel)⟩
theorem lw_p19 : lw_okq (⟨"YoungerBack$Acts", "placeBehindLatest", "()I"⟩, 3) := ⟨⟨by decide +kernel, by decide +kernel⟩, List.mem_of_getElem? (i := 178) (by decide +kernel), List.mem_of_getElem? (i := 498) (by decide +kernel), List.mem_of_getElem? (i := 499) (by decide +kernel)⟩
theorem lw_p20 : lw_okq (⟨"YoungerBack", "isNoHarbour", "(I)Z"⟩, 15) := ⟨⟨by decide +kernel, by decide +kernel⟩, List.mem_of_getElem? (i := 19) (by decide +kernel), List.mem_of_getElem? (i := 579) (by decide +kernel), List.mem_of_getElem? (i := 580) (by decide +kernel)⟩
theorem lw_p21 : lw_okq (⟨"YoungerBack$Foretold", "arrive", "(LYoungerBack$Person;LYoungerBack$Way;I)V"⟩, 1) := ⟨⟨by decide +kernel, by decide +kernel⟩, List.mem_of_getElem? (i := 198) (by decide +kernel), List.mem_of_getElem? (i := 593) (by decide +kernel), List.mem_of_getElem? (i := 594) (by decide +kernel)⟩
theorem lw_p22 : lw_okq (⟨"YoungerBack$Asking", "begin", "(I)V"⟩, 2) := ⟨⟨by decide +kernel, by decide +kernel⟩, List.mem_of_getElem? (i := 209) (by decide +kernel), List.mem_of_getElem? (i := 688) (by decide +kernel), List.mem_of_getElem? (i := 689) (by decide +kernel)⟩
theorem lw_p23 : lw_okq (⟨"YoungerBack$Asking", "sizeOfCaptain", "(LYoungerBack$Person;I)I"⟩, 2) := ⟨⟨by decide +kernel, by decide +kernel⟩, List.mem_of_getElem? (i := 209) (by decide +kernel), List.mem_of_getElem? (i := 692) (by decide +kernel), List.mem_of_getElem? (i := 693) (by decide +kernel)⟩
theorem lw_p24 : lw_okq (⟨"YoungerBack$Asking", "lentSize", "(LYoungerBack$Person;)I"⟩, 2) := ⟨⟨by decide +kernel, by decide +kernel⟩, List.mem_of_getElem? (i := 209) (by decide +kernel), List.mem_of_getElem? (i := 696) (by decide +kernel), List.mem_of_getElem? (i := 697) (by decide +kernel)⟩
theorem lw_p25 : lw_okq (⟨"YoungerBack$Asking", "markAmongCaptains", "(LYoungerBack$Person;I)I"⟩, 2) := ⟨⟨by decide +kernel, by decide +kernel⟩, List.mem_of_getElem? (i := 209) (by decide +kernel), List.mem_of_getElem? (i := 700) (by decide +kernel), List.mem_of_getElem? (i := 701) (by decide +kernel)⟩
theorem lw_p26 : lw_okq (⟨"YoungerBack$Asking", "markOfCaptain", "(LYoungerBack$Person;I)I"⟩, 2) := ⟨⟨by decide +kernel, by decide +kernel⟩, List.mem_of_getElem? (i := 209) (by decide +kernel), List.mem_of_getElem? (i := 704) (by decide +kernel), List.mem_of_getElem? (i := 705) (by decide +kernel)⟩
theorem lw_p27 : lw_okq (⟨"YoungerBack$Asking", "lentMark", "(I)I"⟩, 2) := ⟨⟨by decide +kernel, by decide +kernel⟩, List.mem_of_getElem? (i := 209) (by decide +kernel), List.mem_of_getElem? (i := 708) (by decide +kernel), List.mem_of_getElem? (i := 709) (by decide +kernel)⟩
theorem lw_p28 : lw_okq (⟨"YoungerBack$Asking", "sizeOfClerk", "(LYoungerBack$Person;)I"⟩, 2) := ⟨⟨by decide +kernel, by decide +kernel⟩, List.mem_of_getElem? (i := 209) (by decide +kernel), List.mem_of_getElem? (i := 712) (by decide +kernel), List.mem_of_getElem? (i := 713) (by decide +kernel)⟩
theorem lw_p29 : lw_okq (⟨"YoungerBack", "rowsThere", "()I"⟩, 15) := ⟨⟨by decide +kernel, by decide +kernel⟩, List.mem_of_getElem? (i := 19) (by decide +kernel), List.mem_of_getElem? (i := 730) (by decide +kernel), List.mem_of_getElem? (i := 731) (by decide +kernel)⟩
theorem lw_p30 : lw_okq (⟨"YoungerBackModel", "finding", "(I)I"⟩, 25) := ⟨⟨by decide +kernel, by decide +kernel⟩, List.mem_of_getElem? (i := 738) (by decide +kernel), List.mem_of_getElem? (i := 833) (by decide +kernel), List.mem_of_getElem? (i := 834) (by decide +kernel)⟩
theorem lw_p31 : lw_okq (⟨"YoungerBackModel", "begin", "()V"⟩, 25) := ⟨⟨by decide +kernel, by decide +kernel⟩, List.mem_of_getElem? (i := 738) (by decide +kernel), List.mem_of_getElem? (i := 861) (by decide +kernel), List.mem_of_getElem? (i := 862) (by decide +kernel)⟩
def lw_privs_2 : List (MethodName × Nat) := [(⟨"YoungerBack", "isNobody", "(I)Z"⟩, 15), (⟨"YoungerBack", "isNoWay", "(I)Z"⟩, 15), (⟨"YoungerBack", "sailOnce", "(II)I"⟩, 15), (⟨"YoungerBack$Acts", "placeBehindLatest", "()I"⟩, 3), (⟨"YoungerBack", "isNoHarbour", "(I)Z"⟩, 15), (⟨"YoungerBack$Foretold", "arrive", "(LYoungerBack$Person;LYoungerBack$Way;I)V"⟩, 1), (⟨"YoungerBack$Asking", "begin", "(I)V"⟩, 2), (⟨"YoungerBack$Asking", "sizeOfCaptain", "(LYoungerBack$Person;I)I"⟩, 2), (⟨"YoungerBack$Asking", "lentSize", "(LYoungerBack$Person;)I"⟩, 2), (⟨"YoungerBack$Asking", "markAmongCaptains", "(LYoungerBack$Person;I)I"⟩, 2), (⟨"YoungerBack$Asking", "markOfCaptain", "(LYoungerBack$Person;I)I"⟩, 2), (⟨"YoungerBack$Asking", "lentMark", "(I)I"⟩, 2), (⟨"YoungerBack$Asking", "sizeOfClerk", "(LYoungerBack$Person;)I"⟩, 2), (⟨"YoungerBack", "rowsThere", "()I"⟩, 15), (⟨"YoungerBackModel", "finding", "(I)I"⟩, 25), (⟨"YoungerBackModel", "begin", "()V"⟩, 25)]
theorem lw_r2 : ∀ q ∈ lw_privs_2, lw_okq q := List.forall_mem_cons.mpr ⟨lw_p16, List.forall_mem_cons.mpr ⟨lw_p17, List.forall_mem_cons.mpr ⟨lw_p18, List.forall_mem_cons.mpr ⟨lw_p19, List.forall_mem_cons.mpr ⟨lw_p20, List.forall_mem_cons.mpr ⟨lw_p21, List.forall_mem_cons.mpr ⟨lw_p22, List.forall_mem_cons.mpr ⟨lw_p23, List.forall_mem_cons.mpr ⟨lw_p24, List.forall_mem_cons.mpr ⟨lw_p25, List.forall_mem_cons.mpr ⟨lw_p26, List.forall_mem_cons.mpr ⟨lw_p27, List.forall_mem_cons.mpr ⟨lw_p28, List.forall_mem_cons.mpr ⟨lw_p29, List.forall_mem_cons.mpr ⟨lw_p30, List.forall_mem_cons.mpr ⟨lw_p31, fun _ h => absurd h List.not_mem_nil⟩⟩⟩⟩⟩⟩⟩⟩⟩⟩⟩⟩⟩⟩⟩⟩
theorem lw_p32 : lw_okq (⟨"YoungerBackModel", "next", "()V"⟩, 25) := ⟨⟨by decide +kernel, by decide +kernel⟩, List.mem_of_getElem? (i := 738) (by decide +kernel), List.mem_of_getElem? (i := 865) (by decide +kernel), List.mem_of_getElem? (i := 866) (by decide +kernel)⟩
theorem lw_p33 : lw_okq (⟨"YoungerBackModel", "byteAt", "(I)I"⟩, 25) := ⟨⟨by decide +kernel, by decide +kernel⟩, List.mem_of_getElem? (i := 738) (by decide +kernel), List.mem_of_getElem? (i := 869) (by decide +kernel), List.mem_of_getElem? (i := 870) (by decide +kernel)⟩
theorem lw_p34 : lw_okq (⟨"YoungerBackModel", "name", "()J"⟩, 25) := ⟨⟨by decide +kernel, by decide +kernel⟩, List.mem_of_getElem? (i := 738) (by decide +kernel), List.mem_of_getElem? (i := 880) (by decide +kernel), List.mem_of_getElem? (i := 881) (by decide +kernel)⟩
theorem lw_p35 : lw_okq (⟨"YoungerBackModel", "must", "(Z)V"⟩, 25) := ⟨⟨by decide +kernel, by decide +kernel⟩, List.mem_of_getElem? (i := 738) (by decide +kernel), List.mem_of_getElem? (i := 885) (by decide +kernel), List.mem_of_getElem? (i := 886) (by decide +kernel)⟩
theorem lw_p36 : lw_okq (⟨"YoungerBackModel", "bad", "(I)V"⟩, 25) := ⟨⟨by decide +kernel, by decide +kernel⟩, List.mem_of_getElem? (i := 738) (by decide +kernel), List.mem_of_getElem? (i := 889) (by decide +kernel), List.mem_of_getElem? (i := 890) (by decide +kernel)⟩
theorem lw_p37 : lw_okq (⟨"YoungerBackModel", "number", "(II)I"⟩, 25) := ⟨⟨by decide +kernel, by decide +kernel⟩, List.mem_of_getElem? (i := 738) (by decide +kernel), List.mem_of_getElem? (i := 893) (by decide +kernel), List.mem_of_getElem? (i := 894) (by decide +kernel)⟩
theorem lw_p38 : lw_okq (⟨"YoungerBackModel", "figures", "()I"⟩, 25) := ⟨⟨by decide +kernel, by decide +kernel⟩, List.mem_of_getElem? (i := 738) (by decide +kernel), List.mem_of_getElem? (i := 897) (by decide +kernel), List.mem_of_getElem? (i := 898) (by decide +kernel)⟩
theorem lw_p39 : lw_okq (⟨"YoungerBackModel", "mustEnd", "()V"⟩, 25) := ⟨⟨by decide +kernel, by decide +kernel⟩, List.mem_of_getElem? (i := 738) (by decide +kernel), List.mem_of_getElem? (i := 901) (by decide +kernel), List.mem_of_getElem? (i := 902) (by decide +kernel)⟩
theorem lw_p40 : lw_okq (⟨"YoungerBackModel", "readWay", "()V"⟩, 25) := ⟨⟨by decide +kernel, by decide +kernel⟩, List.mem_of_getElem? (i := 738) (by decide +kernel), List.mem_of_getElem? (i := 906) (by decide +kernel), List.mem_of_getElem? (i := 907) (by decide +kernel)⟩
theorem lw_p41 : lw_okq (⟨"YoungerBackModel", "begins", "(II)V"⟩, 25) := ⟨⟨by decide +kernel, by decide +kernel⟩, List.mem_of_getElem? (i := 738) (by decide +kernel), List.mem_of_getElem? (i := 910) (by decide +kernel), List.mem_of_getElem? (i := 911) (by decide +kernel)⟩
theorem lw_p42 : lw_okq (⟨"YoungerBackModel", "readPerson", "()V"⟩, 25) := ⟨⟨by decide +kernel, by decide +kernel⟩, List.mem_of_getElem? (i := 738) (by decide +kernel), List.mem_of_getElem? (i := 915) (by decide +kernel), List.mem_of_getElem? (i := 916) (by decide +kernel)⟩
theorem lw_p43 : lw_okq (⟨"YoungerBackModel", "isPerson", "(I)Z"⟩, 25) := ⟨⟨by decide +kernel, by decide +kernel⟩, List.mem_of_getElem? (i := 738) (by decide +kernel), List.mem_of_getElem? (i := 936) (by decide +kernel), List.mem_of_getElem? (i := 937) (by decide +kernel)⟩
theorem lw_p44 : lw_okq (⟨"YoungerBackModel", "isWay", "(I)Z"⟩, 25) := ⟨⟨by decide +kernel, by decide +kernel⟩, List.mem_of_getElem? (i := 738) (by decide +kernel), List.mem_of_getElem? (i := 940) (by decide +kernel), List.mem_of_getElem? (i := 941) (by decide +kernel)⟩
theorem lw_p45 : lw_okq (⟨"YoungerBackModel", "goes", "(II)I"⟩, 25) := ⟨⟨by decide +kernel, by decide +kernel⟩, List.mem_of_getElem? (i := 738) (by decide +kernel), List.mem_of_getElem? (i := 944) (by decide +kernel), List.mem_of_getElem? (i := 945) (by decide +kernel)⟩
theorem lw_p46 : lw_okq (⟨"YoungerBackModel", "of", "(II)I"⟩, 25) := ⟨⟨by decide +kernel, by decide +kernel⟩, List.mem_of_getElem? (i := 738) (by decide +kernel), List.mem_of_getElem? (i := 948) (by decide +kernel), List.mem_of_getElem? (i := 949) (by decide +kernel)⟩
theorem lw_p47 : lw_okq (⟨"YoungerBackModel", "endOf", "(III)I"⟩, 25) := ⟨⟨by decide +kernel, by decide +kernel⟩, List.mem_of_getElem? (i := 738) (by decide +kernel), List.mem_of_getElem? (i := 952) (by decide +kernel), List.mem_of_getElem? (i := 953) (by decide +kernel)⟩
def lw_privs_3 : List (MethodName × Nat) := [(⟨"YoungerBackModel", "next", "()V"⟩, 25), (⟨"YoungerBackModel", "byteAt", "(I)I"⟩, 25), (⟨"YoungerBackModel", "name", "()J"⟩, 25), (⟨"YoungerBackModel", "must", "(Z)V"⟩, 25), (⟨"YoungerBackModel", "bad", "(I)V"⟩, 25), (⟨"YoungerBackModel", "number", "(II)I"⟩, 25), (⟨"YoungerBackModel", "figures", "()I"⟩, 25), (⟨"YoungerBackModel", "mustEnd", "()V"⟩, 25), (⟨"YoungerBackModel", "readWay", "()V"⟩, 25), (⟨"YoungerBackModel", "begins", "(II)V"⟩, 25), (⟨"YoungerBackModel", "readPerson", "()V"⟩, 25), (⟨"YoungerBackModel", "isPerson", "(I)Z"⟩, 25), (⟨"YoungerBackModel", "isWay", "(I)Z"⟩, 25), (⟨"YoungerBackModel", "goes", "(II)I"⟩, 25), (⟨"YoungerBackModel", "of", "(II)I"⟩, 25), (⟨"YoungerBackModel", "endOf", "(III)I"⟩, 25)]
theorem lw_r3 : ∀ q ∈ lw_privs_3, lw_okq q := List.forall_mem_cons.mpr ⟨lw_p32, List.forall_mem_cons.mpr ⟨lw_p33, List.forall_mem_cons.mpr ⟨lw_p34, List.forall_mem_cons.mpr ⟨lw_p35, List.forall_mem_cons.mpr ⟨lw_p36, List.forall_mem_cons.mpr ⟨lw_p37, List.forall_mem_cons.mpr ⟨lw_p38, List.forall_mem_cons.mpr ⟨lw_p39, List.forall_mem_cons.mpr ⟨lw_p40, List.forall_mem_cons.mpr ⟨lw_p41, List.forall_mem_cons.mpr ⟨lw_p42, List.forall_mem_cons.mpr ⟨lw_p43, List.forall_mem_cons.mpr ⟨lw_p44, List.forall_mem_cons.mpr ⟨lw_p45, List.forall_mem_cons.mpr ⟨lw_p46, List.forall_mem_cons.mpr ⟨lw_p47, fun _ h => absurd h List.not_mem_nil⟩⟩⟩⟩⟩⟩⟩⟩⟩⟩⟩⟩⟩⟩⟩⟩
theorem lw_p48 : lw_okq (⟨"YoungerBackModel", "wayOf", "(II)I"⟩, 25) := ⟨⟨by decide +kernel, by decide +kernel⟩, List.mem_of_getElem? (i := 738) (by decide +kernel), List.mem_of_getElem? (i := 956) (by decide +kernel), List.mem_of_getElem? (i := 957) (by decide +kernel)⟩
theorem lw_p49 : lw_okq (⟨"YoungerBackModel", "keep", "()V"⟩, 25) := ⟨⟨by decide +kernel, by decide +kernel⟩, List.mem_of_getElem? (i := 738) (by decide +kernel), List.mem_of_getElem? (i := 961) (by decide +kernel), List.mem_of_getElem? (i := 962) (by decide +kernel)⟩
theorem lw_p50 : lw_okq (⟨"YoungerBackModel", "agesBy", "(II)I"⟩, 25) := ⟨⟨by decide +kernel, by decide +kernel⟩, List.mem_of_getElem? (i := 738) (by decide +kernel), List.mem_of_getElem? (i := 965) (by decide +kernel), List.mem_of_getElem? (i := 966) (by decide +kernel)⟩
theorem lw_p51 : lw_okq (⟨"YoungerBackModel", "ages", "(III)V"⟩, 25) := ⟨⟨by decide +kernel, by decide +kernel⟩, List.mem_of_getElem? (i := 738) (by decide +kernel), List.mem_of_getElem? (i := 969) (by decide +kernel), List.mem_of_getElem? (i := 970) (by decide +kernel)⟩
theorem lw_p52 : lw_okq (⟨"YoungerBackModel", "owedBy", "(II)I"⟩, 25) := ⟨⟨by decide +kernel, by decide +kernel⟩, List.mem_of_getElem? (i := 738) (by decide +kernel), List.mem_of_getElem? (i := 992) (by decide +kernel), List.mem_of_getElem? (i := 993) (by decide +kernel)⟩
theorem lw_p53 : lw_okq (⟨"YoungerBackModel", "grown", "(II)I"⟩, 25) := ⟨⟨by decide +kernel, by decide +kernel⟩, List.mem_of_getElem? (i := 738) (by decide +kernel), List.mem_of_getElem? (i := 996) (by decide +kernel), List.mem_of_getElem? (i := 997) (by decide +kernel)⟩
theorem lw_p54 : lw_okq (⟨"YoungerBackModel", "isHarbour", "(I)Z"⟩, 25) := ⟨⟨by decide +kernel, by decide +kernel⟩, List.mem_of_getElem? (i := 738) (by decide +kernel), List.mem_of_getElem? (i := 1014) (by decide +kernel), List.mem_of_getElem? (i := 1015) (by decide +kernel)⟩
theorem lw_p55 : lw_okq (⟨"YoungerBackModel", "layGains", "(I)V"⟩, 25) := ⟨⟨by decide +kernel, by decide +kernel⟩, List.mem_of_getElem? (i := 738) (by decide +kernel), List.mem_of_getElem? (i := 1019) (by decide +kernel), List.mem_of_getElem? (i := 1020) (by decide +kernel)⟩
theorem lw_p56 : lw_okq (⟨"YoungerBackModel", "isThere", "()Z"⟩, 25) := ⟨⟨by decide +kernel, by decide +kernel⟩, List.mem_of_getElem? (i := 738) (by decide +kernel), List.mem_of_getElem? (i := 1049) (by decide +kernel), List.mem_of_getElem? (i := 1050) (by decide +kernel)⟩
theorem lw_p57 : lw_okq (⟨"YoungerBackModel", "sizeOf", "(I)I"⟩, 25) := ⟨⟨by decide +kernel, by decide +kernel⟩, List.mem_of_getElem? (i := 738) (by decide +kernel), List.mem_of_getElem? (i := 1076) (by decide +kernel), List.mem_of_getElem? (i := 1077) (by decide +kernel)⟩
theorem lw_p58 : lw_okq (⟨"YoungerBackModel", "clerkSize", "(I)I"⟩, 25) := ⟨⟨by decide +kernel, by decide +kernel⟩, List.mem_of_getElem? (i := 738) (by decide +kernel), List.mem_of_getElem? (i := 1080) (by decide +kernel), List.mem_of_getElem? (i := 1081) (by decide +kernel)⟩
theorem lw_p59 : lw_okq (⟨"YoungerBackModel", "began", "(I)V"⟩, 25) := ⟨⟨by decide +kernel, by decide +kernel⟩, List.mem_of_getElem? (i := 738) (by decide +kernel), List.mem_of_getElem? (i := 1084) (by decide +kernel), List.mem_of_getElem? (i := 1085) (by decide +kernel)⟩
theorem lw_p60 : lw_okq (⟨"YoungerBackModel", "plainSize", "(I)I"⟩, 25) := ⟨⟨by decide +kernel, by decide +kernel⟩, List.mem_of_getElem? (i := 738) (by decide +kernel), List.mem_of_getElem? (i := 1088) (by decide +kernel), List.mem_of_getElem? (i := 1089) (by decide +kernel)⟩
theorem lw_p61 : lw_okq (⟨"YoungerBackModel", "markOf", "(I)I"⟩, 25) := ⟨⟨by decide +kernel, by decide +kernel⟩, List.mem_of_getElem? (i := 738) (by decide +kernel), List.mem_of_getElem? (i := 1092) (by decide +kernel), List.mem_of_getElem? (i := 1093) (by decide +kernel)⟩
def lw_privs_4 : List (MethodName × Nat) := [(⟨"YoungerBackModel", "wayOf", "(II)I"⟩, 25), (⟨"YoungerBackModel", "keep", "()V"⟩, 25), (⟨"YoungerBackModel", "agesBy", "(II)I"⟩, 25), (⟨"YoungerBackModel", "ages", "(III)V"⟩, 25), (⟨"YoungerBackModel", "owedBy", "(II)I"⟩, 25), (⟨"YoungerBackModel", "grown", "(II)I"⟩, 25), (⟨"YoungerBackModel", "isHarbour", "(I)Z"⟩, 25), (⟨"YoungerBackModel", "layGains", "(I)V"⟩, 25), (⟨"YoungerBackModel", "isThere", "()Z"⟩, 25), (⟨"YoungerBackModel", "sizeOf", "(I)I"⟩, 25), (⟨"YoungerBackModel", "clerkSize", "(I)I"⟩, 25), (⟨"YoungerBackModel", "began", "(I)V"⟩, 25), (⟨"YoungerBackModel", "plainSize", "(I)I"⟩, 25), (⟨"YoungerBackModel", "markOf", "(I)I"⟩, 25)]
theorem lw_r4 : ∀ q ∈ lw_privs_4, lw_okq q := List.forall_mem_cons.mpr ⟨lw_p48, List.forall_mem_cons.mpr ⟨lw_p49, List.forall_mem_cons.mpr ⟨lw_p50, List.forall_mem_cons.mpr ⟨lw_p51, List.forall_mem_cons.mpr ⟨lw_p52, List.forall_mem_cons.mpr ⟨lw_p53, List.forall_mem_cons.mpr ⟨lw_p54, List.forall_mem_cons.mpr ⟨lw_p55, List.forall_mem_cons.mpr ⟨lw_p56, List.forall_mem_cons.mpr ⟨lw_p57, List.forall_mem_cons.mpr ⟨lw_p58, List.forall_mem_cons.mpr ⟨lw_p59, List.forall_mem_cons.mpr ⟨lw_p60, List.forall_mem_cons.mpr ⟨lw_p61, fun _ h => absurd h List.not_mem_nil⟩⟩⟩⟩⟩⟩⟩⟩⟩⟩⟩⟩⟩⟩
def lw_privs : List (MethodName × Nat) := lw_privs_1 ++ (lw_privs_2 ++ (lw_privs_3 ++ (lw_privs_4)))
def lw_tbl : List Cond := k2_sels lw_privs ++ tables_1
theorem lw_privs_ok : ∀ q ∈ lw_privs, lw_okq q := by
  show ∀ q ∈ lw_privs_1 ++ (lw_privs_2 ++ (lw_privs_3 ++ (lw_privs_4))), lw_okq q
  exact List.forall_mem_append.mpr ⟨lw_r1, List.forall_mem_append.mpr ⟨lw_r2, List.forall_mem_append.mpr ⟨lw_r3, lw_r4⟩⟩⟩
def RX0 : String := "YoungerBack$Acts"
def TX0 : u_T := fun k => match k with
  | 0 => ("YoungerBack$Acts", "kept", "[LYoungerBack$Person;", true)
  | 1 => ("YoungerBack$Acts", "oldest", "I", false)
  | _ => ("YoungerBack$Acts", "many", "I", false)
def tyX0 : Nat → FieldType := fun k => match k with
  | 0 => .array (.object "YoungerBack$Person")
  | 1 => .int
  | _ => .int
abbrev wsX00 : List Cond := u_ws RX0 TX0 3
theorem nmX0 : ∀ a, a < 3 → ∀ b, b < 3 → a ≠ b → (TX0 a).2.1 ≠ (TX0 b).2.1 := by decide +kernel
theorem tyX0_ok : ∀ k, k < 3 → parseFieldDescriptor (TX0 k).2.2.1 = some (tyX0 k) := by decide +kernel
abbrev cX0_init : ByteArray := prog_2_method_1_code
def yX0_init : MethodName := ⟨RX0, "<init>", "()V"⟩
abbrev cX0_forget : ByteArray := prog_2_method_2_code
def yX0_forget : MethodName := ⟨RX0, "forget", "()V"⟩
abbrev cX0_keep : ByteArray := prog_2_method_3_code
def yX0_keep : MethodName := ⟨RX0, "keep", "(LYoungerBack$League;)V"⟩
abbrev cX0_takeBack : ByteArray := prog_2_method_4_code
def yX0_takeBack : MethodName := ⟨RX0, "takeBack", "(LYoungerBack$League;)V"⟩
abbrev cX0_placeBehindLatest : ByteArray := prog_2_method_5_code
def yX0_placeBehindLatest : MethodName := ⟨RX0, "placeBehindLatest", "()I"⟩
def RX1 : String := "YoungerBack$Asking"
def TX1 : u_T := fun k => match k with
  | 0 => ("YoungerBack$Asking", "bodies", "[I", true)
  | _ => ("YoungerBack$Asking", "begun", "I", false)
def tyX1 : Nat → FieldType := fun k => match k with
  | 0 => .array .int
  | _ => .int
abbrev wsX10 : List Cond := u_ws RX1 TX1 2
theorem nmX1 : ∀ a, a < 2 → ∀ b, b < 2 → a ≠ b → (TX1 a).2.1 ≠ (TX1 b).2.1 := by decide +kernel
theorem tyX1_ok : ∀ k, k < 2 → parseFieldDescriptor (TX1 k).2.2.1 = some (tyX1 k) := by decide +kernel
abbrev cX1_init : ByteArray := prog_3_method_1_code
def yX1_init : MethodName := ⟨RX1, "<init>", "()V"⟩
abbrev cX1_begin : ByteArray := prog_3_method_2_code
def yX1_begin : MethodName := ⟨RX1, "begin", "(I)V"⟩
abbrev cX1_size : ByteArray := prog_3_method_3_code
def yX1_size : MethodName := ⟨RX1, "size", "(LYoungerBack$Person;I)I"⟩
abbrev cX1_mark : ByteArray := prog_3_method_4_code
def yX1_mark : MethodName := ⟨RX1, "mark", "(LYoungerBack$Person;I)I"⟩
abbrev cX1_markAmongCaptains : ByteArray := prog_3_method_5_code
def yX1_markAmongCaptains : MethodName := ⟨RX1, "markAmongCaptains", "(LYoungerBack$Person;I)I"⟩
abbrev cX1_lentSize : ByteArray := prog_3_method_6_code
def yX1_lentSize : MethodName := ⟨RX1, "lentSize", "(LYoungerBack$Person;)I"⟩
abbrev cX1_sizeOfCaptain : ByteArray := prog_3_method_7_code
def yX1_sizeOfCaptain : MethodName := ⟨RX1, "sizeOfCaptain", "(LYoungerBack$Person;I)I"⟩
abbrev cX1_sizeOfClerk : ByteArray := prog_3_method_8_code
def yX1_sizeOfClerk : MethodName := ⟨RX1, "sizeOfClerk", "(LYoungerBack$Person;)I"⟩
abbrev cX1_lentMark : ByteArray := prog_3_method_9_code
def yX1_lentMark : MethodName := ⟨RX1, "lentMark", "(I)I"⟩
abbrev cX1_markOfCaptain : ByteArray := prog_3_method_10_code
def yX1_markOfCaptain : MethodName := ⟨RX1, "markOfCaptain", "(LYoungerBack$Person;I)I"⟩
def RX2 : String := "YoungerBack$Foretold"
def TX2 : u_T := fun k => match k with
  | _ => ("YoungerBack$Foretold", "gains", "[J", true)
def tyX2 : Nat → FieldType := fun k => match k with
  | _ => .array .long
abbrev wsX20 : List Cond := u_ws RX2 TX2 1
theorem nmX2 : ∀ a, a < 1 → ∀ b, b < 1 → a ≠ b → (TX2 a).2.1 ≠ (TX2 b).2.1 := by decide +kernel
theorem tyX2_ok : ∀ k, k < 1 → parseFieldDescriptor (TX2 k).2.2.1 = some (tyX2 k) := by decide +kernel
abbrev cX2_init : ByteArray := prog_4_method_1_code
def yX2_init : MethodName := ⟨RX2, "<init>", "()V"⟩
abbrev cX2_gainsAt : ByteArray := prog_4_method_2_code
def yX2_gainsAt : MethodName := ⟨RX2, "gainsAt", "(II)J"⟩
abbrev cX2_hasGain : ByteArray := prog_4_method_3_code
def yX2_hasGain : MethodName := ⟨RX2, "hasGain", "(III)Z"⟩
abbrev cX2_foresee : ByteArray := prog_4_method_4_code
def yX2_foresee : MethodName := ⟨RX2, "foresee", "(LYoungerBack$League;LYoungerBack$Person;)V"⟩
abbrev cX2_arrive : ByteArray := prog_4_method_5_code
def yX2_arrive : MethodName := ⟨RX2, "arrive", "(LYoungerBack$Person;LYoungerBack$Way;I)V"⟩
def RX3 : String := "YoungerBack$League"
def TX3 : u_T := fun k => match k with
  | 0 => ("YoungerBack$League", "harbours", "I", false)
  | 1 => ("YoungerBack$League", "rate", "I", false)
  | 2 => ("YoungerBack$League", "wayCount", "I", false)
  | 3 => ("YoungerBack$League", "peopleCount", "I", false)
  | 4 => ("YoungerBack$League", "ways", "[LYoungerBack$Way;", true)
  | _ => ("YoungerBack$League", "people", "[LYoungerBack$Person;", true)
def tyX3 : Nat → FieldType := fun k => match k with
  | 0 => .int
  | 1 => .int
  | 2 => .int
  | 3 => .int
  | 4 => .array (.object "YoungerBack$Way")
  | _ => .array (.object "YoungerBack$Person")
abbrev wsX30 : List Cond := u_ws RX3 TX3 6
theorem nmX3 : ∀ a, a < 6 → ∀ b, b < 6 → a ≠ b → (TX3 a).2.1 ≠ (TX3 b).2.1 := by decide +kernel
theorem tyX3_ok : ∀ k, k < 6 → parseFieldDescriptor (TX3 k).2.2.1 = some (tyX3 k) := by decide +kernel
abbrev cX3_init : ByteArray := prog_5_method_1_code
def yX3_init : MethodName := ⟨RX3, "<init>", "()V"⟩
abbrev cX3_standsAs : ByteArray := prog_5_method_2_code
def yX3_standsAs : MethodName := ⟨RX3, "standsAs", "(LYoungerBack$League;)V"⟩
abbrev cX3_oneVoyageMore : ByteArray := prog_5_method_3_code
def yX3_oneVoyageMore : MethodName := ⟨RX3, "oneVoyageMore", "(LYoungerBack$Person;I)I"⟩
def RX4 : String := "YoungerBack$Person"
def TX4 : u_T := fun k => match k with
  | 0 => ("YoungerBack$Person", "sort", "I", false)
  | 1 => ("YoungerBack$Person", "ageAsTold", "I", false)
  | 2 => ("YoungerBack$Person", "at", "I", false)
  | 3 => ("YoungerBack$Person", "clock", "I", false)
  | 4 => ("YoungerBack$Person", "age", "I", false)
  | 5 => ("YoungerBack$Person", "loan", "I", false)
  | 6 => ("YoungerBack$Person", "loanClock", "I", false)
  | _ => ("YoungerBack$Person", "loanAge", "I", false)
def tyX4 : Nat → FieldType := fun k => match k with
  | 0 => .int
  | 1 => .int
  | 2 => .int
  | 3 => .int
  | 4 => .int
  | 5 => .int
  | 6 => .int
  | _ => .int
abbrev wsX40 : List Cond := u_ws RX4 TX4 8
theorem nmX4 : ∀ a, a < 8 → ∀ b, b < 8 → a ≠ b → (TX4 a).2.1 ≠ (TX4 b).2.1 := by decide +kernel
theorem tyX4_ok : ∀ k, k < 8 → parseFieldDescriptor (TX4 k).2.2.1 = some (tyX4 k) := by decide +kernel
abbrev cX4_init : ByteArray := prog_6_method_1_code
def yX4_init : MethodName := ⟨RX4, "<init>", "()V"⟩
abbrev cX4_beginsAs : ByteArray := prog_6_method_2_code
def yX4_beginsAs : MethodName := ⟨RX4, "beginsAs", "(III)V"⟩
abbrev cX4_becomes : ByteArray := prog_6_method_3_code
def yX4_becomes : MethodName := ⟨RX4, "becomes", "(LYoungerBack$Person;)V"⟩
abbrev cX4_lag : ByteArray := prog_6_method_4_code
def yX4_lag : MethodName := ⟨RX4, "lag", "()I"⟩
abbrev cX4_maySail : ByteArray := prog_6_method_5_code
def yX4_maySail : MethodName := ⟨RX4, "maySail", "(LYoungerBack$Way;)Z"⟩
abbrev cX4_ownYears : ByteArray := prog_6_method_6_code
def yX4_ownYears : MethodName := ⟨RX4, "ownYears", "(LYoungerBack$Way;)I"⟩
abbrev cX4_sailOn : ByteArray := prog_6_method_7_code
def yX4_sailOn : MethodName := ⟨RX4, "sailOn", "(LYoungerBack$Way;)V"⟩
abbrev cX4_stayFor : ByteArray := prog_6_method_8_code
def yX4_stayFor : MethodName := ⟨RX4, "stayFor", "(I)V"⟩
abbrev cX4_takeLoan : ByteArray := prog_6_method_9_code
def yX4_takeLoan : MethodName := ⟨RX4, "takeLoan", "(I)V"⟩
abbrev cX4_owedByShore : ByteArray := prog_6_method_10_code
def yX4_owedByShore : MethodName := ⟨RX4, "owedByShore", "(I)I"⟩
abbrev cX4_owedByOwn : ByteArray := prog_6_method_11_code
def yX4_owedByOwn : MethodName := ⟨RX4, "owedByOwn", "(I)I"⟩
abbrev cX4_grown : ByteArray := prog_6_method_12_code
def yX4_grown : MethodName := ⟨RX4, "grown", "(III)I"⟩
def RX5 : String := "YoungerBack$Tape"
def TX5 : u_T := fun k => match k with
  | 0 => ("YoungerBack$Tape", "bytes", "[I", true)
  | 1 => ("YoungerBack$Tape", "many", "I", false)
  | 2 => ("YoungerBack$Tape", "token", "I", false)
  | 3 => ("YoungerBack$Tape", "start", "I", false)
  | 4 => ("YoungerBack$Tape", "behind", "I", false)
  | 5 => ("YoungerBack$Tape", "value", "I", false)
  | 6 => ("YoungerBack$Tape", "fault", "I", false)
  | _ => ("YoungerBack$Tape", "faultPlace", "I", false)
def tyX5 : Nat → FieldType := fun k => match k with
  | 0 => .array .int
  | 1 => .int
  | 2 => .int
  | 3 => .int
  | 4 => .int
  | 5 => .int
  | 6 => .int
  | _ => .int
abbrev wsX50 : List Cond := u_ws RX5 TX5 8
theorem nmX5 : ∀ a, a < 8 → ∀ b, b < 8 → a ≠ b → (TX5 a).2.1 ≠ (TX5 b).2.1 := by decide +kernel
theorem tyX5_ok : ∀ k, k < 8 → parseFieldDescriptor (TX5 k).2.2.1 = some (tyX5 k) := by decide +kernel
abbrev cX5_init : ByteArray := prog_7_method_1_code
def yX5_init : MethodName := ⟨RX5, "<init>", "()V"⟩
abbrev cX5_append : ByteArray := prog_7_method_2_code
def yX5_append : MethodName := ⟨RX5, "append", "(JI)V"⟩
abbrev cX5_readLeague : ByteArray := prog_7_method_3_code
def yX5_readLeague : MethodName := ⟨RX5, "readLeague", "(LYoungerBack$League;)V"⟩
abbrev cX5_readWay : ByteArray := prog_7_method_4_code
def yX5_readWay : MethodName := ⟨RX5, "readWay", "(LYoungerBack$League;)V"⟩
abbrev cX5_readPerson : ByteArray := prog_7_method_5_code
def yX5_readPerson : MethodName := ⟨RX5, "readPerson", "(LYoungerBack$League;)V"⟩
abbrev cX5_fail : ByteArray := prog_7_method_6_code
def yX5_fail : MethodName := ⟨RX5, "fail", "(I)V"⟩
abbrev cX5_takeWord : ByteArray := prog_7_method_7_code
def yX5_takeWord : MethodName := ⟨RX5, "takeWord", "(Ljava/lang/String;)V"⟩
abbrev cX5_takeSort : ByteArray := prog_7_method_8_code
def yX5_takeSort : MethodName := ⟨RX5, "takeSort", "()I"⟩
abbrev cX5_takeSign : ByteArray := prog_7_method_9_code
def yX5_takeSign : MethodName := ⟨RX5, "takeSign", "()V"⟩
abbrev cX5_takeNumber : ByteArray := prog_7_method_10_code
def yX5_takeNumber : MethodName := ⟨RX5, "takeNumber", "(III)I"⟩
abbrev cX5_sortWord : ByteArray := prog_7_method_11_code
def yX5_sortWord : MethodName := ⟨RX5, "sortWord", "(I)Ljava/lang/String;"⟩
abbrev cX5_isWord : ByteArray := prog_7_method_12_code
def yX5_isWord : MethodName := ⟨RX5, "isWord", "(Ljava/lang/String;)Z"⟩
abbrev cX5_nextToken : ByteArray := prog_7_method_13_code
def yX5_nextToken : MethodName := ⟨RX5, "nextToken", "()V"⟩
abbrev cX5_isBetween : ByteArray := prog_7_method_14_code
def yX5_isBetween : MethodName := ⟨RX5, "isBetween", "(II)Z"⟩
abbrev cX5_passRun : ByteArray := prog_7_method_15_code
def yX5_passRun : MethodName := ⟨RX5, "passRun", "(II)V"⟩
abbrev cX5_readNumber : ByteArray := prog_7_method_16_code
def yX5_readNumber : MethodName := ⟨RX5, "readNumber", "()V"⟩
def RX6 : String := "YoungerBack$Way"
def TX6 : u_T := fun k => match k with
  | 0 => ("YoungerBack$Way", "a", "I", false)
  | 1 => ("YoungerBack$Way", "b", "I", false)
  | 2 => ("YoungerBack$Way", "shore", "I", false)
  | _ => ("YoungerBack$Way", "own", "I", false)
def tyX6 : Nat → FieldType := fun k => match k with
  | 0 => .int
  | 1 => .int
  | 2 => .int
  | _ => .int
abbrev wsX60 : List Cond := u_ws RX6 TX6 4
theorem nmX6 : ∀ a, a < 4 → ∀ b, b < 4 → a ≠ b → (TX6 a).2.1 ≠ (TX6 b).2.1 := by decide +kernel
theorem tyX6_ok : ∀ k, k < 4 → parseFieldDescriptor (TX6 k).2.2.1 = some (tyX6 k) := by decide +kernel
abbrev cX6_init : ByteArray := prog_8_method_1_code
def yX6_init : MethodName := ⟨RX6, "<init>", "()V"⟩
abbrev cX6_becomes : ByteArray := prog_8_method_2_code
def yX6_becomes : MethodName := ⟨RX6, "becomes", "(LYoungerBack$Way;)V"⟩
abbrev cX6_endsIn : ByteArray := prog_8_method_3_code
def yX6_endsIn : MethodName := ⟨RX6, "endsIn", "(I)Z"⟩
abbrev cX6_otherEnd : ByteArray := prog_8_method_4_code
def yX6_otherEnd : MethodName := ⟨RX6, "otherEnd", "(I)I"⟩
def RX7 : String := "YoungerBack"
def TX7 : u_T := fun k => match k with
  | 0 => ("YoungerBack", "items", "[[I", true)
  | 1 => ("YoungerBack", "lanes", "[I", true)
  | 2 => ("YoungerBack", "sizes", "[I", true)
  | 3 => ("YoungerBack", "finding", "I", false)
  | 4 => ("YoungerBack", "tape", "LYoungerBack$Tape;", true)
  | 5 => ("YoungerBack", "latestFault", "I", false)
  | 6 => ("YoungerBack", "isRead", "Z", false)
  | 7 => ("YoungerBack", "current", "LYoungerBack$League;", true)
  | 8 => ("YoungerBack", "draft", "LYoungerBack$League;", true)
  | 9 => ("YoungerBack", "images", "[LYoungerBack$League;", true)
  | 10 => ("YoungerBack", "isKept", "[Z", true)
  | 11 => ("YoungerBack", "acts", "LYoungerBack$Acts;", true)
  | 12 => ("YoungerBack", "first", "LYoungerBack$Foretold;", true)
  | 13 => ("YoungerBack", "second", "LYoungerBack$Foretold;", true)
  | _ => ("YoungerBack", "asking", "LYoungerBack$Asking;", true)
def tyX7 : Nat → FieldType := fun k => match k with
  | 0 => .array (.array .int)
  | 1 => .array .int
  | 2 => .array .int
  | 3 => .int
  | 4 => .object "YoungerBack$Tape"
  | 5 => .int
  | 6 => .boolean
  | 7 => .object "YoungerBack$League"
  | 8 => .object "YoungerBack$League"
  | 9 => .array (.object "YoungerBack$League")
  | 10 => .array .boolean
  | 11 => .object "YoungerBack$Acts"
  | 12 => .object "YoungerBack$Foretold"
  | 13 => .object "YoungerBack$Foretold"
  | _ => .object "YoungerBack$Asking"
abbrev wsX70 : List Cond := u_ws RX7 TX7 15
theorem nmX7 : ∀ a, a < 15 → ∀ b, b < 15 → a ≠ b → (TX7 a).2.1 ≠ (TX7 b).2.1 := by decide +kernel
theorem tyX7_ok : ∀ k, k < 15 → parseFieldDescriptor (TX7 k).2.2.1 = some (tyX7 k) := by decide +kernel
abbrev cX7_init : ByteArray := prog_1_method_1_code
def yX7_init : MethodName := ⟨RX7, "<init>", "()V"⟩
abbrev cX7_row : ByteArray := prog_1_method_2_code
def yX7_row : MethodName := ⟨RX7, "row", "(III)I"⟩
abbrev cX7_set : ByteArray := prog_1_method_3_code
def yX7_set : MethodName := ⟨RX7, "set", "(III)I"⟩
abbrev cX7_copy : ByteArray := prog_1_method_4_code
def yX7_copy : MethodName := ⟨RX7, "copy", "(IIIII)I"⟩
abbrev cX7_drop : ByteArray := prog_1_method_5_code
def yX7_drop : MethodName := ⟨RX7, "drop", "(I)I"⟩
abbrev cX7_feed : ByteArray := prog_1_method_6_code
def yX7_feed : MethodName := ⟨RX7, "feed", "(JI)I"⟩
abbrev cX7_league : ByteArray := prog_1_method_7_code
def yX7_league : MethodName := ⟨RX7, "league", "()I"⟩
abbrev cX7_fault : ByteArray := prog_1_method_8_code
def yX7_fault : MethodName := ⟨RX7, "fault", "()I"⟩
abbrev cX7_sail : ByteArray := prog_1_method_9_code
def yX7_sail : MethodName := ⟨RX7, "sail", "(II)I"⟩
abbrev cX7_sails : ByteArray := prog_1_method_10_code
def yX7_sails : MethodName := ⟨RX7, "sails", "(IIII)I"⟩
abbrev cX7_stay : ByteArray := prog_1_method_11_code
def yX7_stay : MethodName := ⟨RX7, "stay", "(II)I"⟩
abbrev cX7_meet : ByteArray := prog_1_method_12_code
def yX7_meet : MethodName := ⟨RX7, "meet", "(II)I"⟩
abbrev cX7_borrow : ByteArray := prog_1_method_13_code
def yX7_borrow : MethodName := ⟨RX7, "borrow", "(II)I"⟩
abbrev cX7_undo : ByteArray := prog_1_method_14_code
def yX7_undo : MethodName := ⟨RX7, "undo", "()I"⟩
abbrev cX7_person : ByteArray := prog_1_method_15_code
def yX7_person : MethodName := ⟨RX7, "person", "(II)I"⟩
abbrev cX7_gains : ByteArray := prog_1_method_16_code
def yX7_gains : MethodName := ⟨RX7, "gains", "(IIII)I"⟩
abbrev cX7_soonest : ByteArray := prog_1_method_17_code
def yX7_soonest : MethodName := ⟨RX7, "soonest", "(III)I"⟩
abbrev cX7_voyages : ByteArray := prog_1_method_18_code
def yX7_voyages : MethodName := ⟨RX7, "voyages", "(II)I"⟩
abbrev cX7_even : ByteArray := prog_1_method_19_code
def yX7_even : MethodName := ⟨RX7, "even", "(III)I"⟩
abbrev cX7_where : ByteArray := prog_1_method_20_code
def yX7_where : MethodName := ⟨RX7, "where", "(III)I"⟩
abbrev cX7_gone : ByteArray := prog_1_method_21_code
def yX7_gone : MethodName := ⟨RX7, "gone", "(I)I"⟩
abbrev cX7_eldest : ByteArray := prog_1_method_22_code
def yX7_eldest : MethodName := ⟨RX7, "eldest", "(I)I"⟩
abbrev cX7_image : ByteArray := prog_1_method_23_code
def yX7_image : MethodName := ⟨RX7, "image", "(I)I"⟩
abbrev cX7_restore : ByteArray := prog_1_method_24_code
def yX7_restore : MethodName := ⟨RX7, "restore", "(I)I"⟩
abbrev cX7_kind : ByteArray := prog_1_method_25_code
def yX7_kind : MethodName := ⟨RX7, "kind", "(I)I"⟩
abbrev cX7_as : ByteArray := prog_1_method_26_code
def yX7_as : MethodName := ⟨RX7, "as", "(II)I"⟩
abbrev cX7_ask : ByteArray := prog_1_method_27_code
def yX7_ask : MethodName := ⟨RX7, "ask", "(II)I"⟩
abbrev cX7_trace : ByteArray := prog_1_method_28_code
def yX7_trace : MethodName := ⟨RX7, "trace", "(I)I"⟩
abbrev cX7_count : ByteArray := prog_1_method_29_code
def yX7_count : MethodName := ⟨RX7, "count", "(I)I"⟩
abbrev cX7_status : ByteArray := prog_1_method_30_code
def yX7_status : MethodName := ⟨RX7, "status", "()I"⟩
abbrev cX7_found : ByteArray := prog_1_method_31_code
def yX7_found : MethodName := ⟨RX7, "found", "(I)I"⟩
abbrev cX7_foundNothing : ByteArray := prog_1_method_32_code
def yX7_foundNothing : MethodName := ⟨RX7, "foundNothing", "(I)I"⟩
abbrev cX7_isOutside : ByteArray := prog_1_method_33_code
def yX7_isOutside : MethodName := ⟨RX7, "isOutside", "(III)Z"⟩
abbrev cX7_isNoRow : ByteArray := prog_1_method_34_code
def yX7_isNoRow : MethodName := ⟨RX7, "isNoRow", "(I)Z"⟩
abbrev cX7_isMissing : ByteArray := prog_1_method_35_code
def yX7_isMissing : MethodName := ⟨RX7, "isMissing", "(I)Z"⟩
abbrev cX7_isBeyond : ByteArray := prog_1_method_36_code
def yX7_isBeyond : MethodName := ⟨RX7, "isBeyond", "(III)Z"⟩
abbrev cX7_lowestBits : ByteArray := prog_1_method_37_code
def yX7_lowestBits : MethodName := ⟨RX7, "lowestBits", "(II)I"⟩
abbrev cX7_rowsThere : ByteArray := prog_1_method_38_code
def yX7_rowsThere : MethodName := ⟨RX7, "rowsThere", "()I"⟩
abbrev cX7_isNobody : ByteArray := prog_1_method_39_code
def yX7_isNobody : MethodName := ⟨RX7, "isNobody", "(I)Z"⟩
abbrev cX7_isNoWay : ByteArray := prog_1_method_40_code
def yX7_isNoWay : MethodName := ⟨RX7, "isNoWay", "(I)Z"⟩
abbrev cX7_isNoHarbour : ByteArray := prog_1_method_41_code
def yX7_isNoHarbour : MethodName := ⟨RX7, "isNoHarbour", "(I)Z"⟩
abbrev cX7_sailOnce : ByteArray := prog_1_method_42_code
def yX7_sailOnce : MethodName := ⟨RX7, "sailOnce", "(II)I"⟩
abbrev cX7_haveGainsApart : ByteArray := prog_1_method_43_code
def yX7_haveGainsApart : MethodName := ⟨RX7, "haveGainsApart", "(JJI)Z"⟩
abbrev cX7_isOfKind : ByteArray := prog_1_method_44_code
def yX7_isOfKind : MethodName := ⟨RX7, "isOfKind", "(II)Z"⟩
abbrev cX7_nearestKind : ByteArray := prog_1_method_45_code
def yX7_nearestKind : MethodName := ⟨RX7, "nearestKind", "(I)I"⟩
def RX8 : String := "YoungerBackModel"
def TX8 : u_T := fun k => match k with
  | 0 => ("YoungerBackModel", "thrown", "I", false)
  | 1 => ("YoungerBackModel", "status", "I", false)
  | 2 => ("YoungerBackModel", "lane", "[I", true)
  | 3 => ("YoungerBackModel", "many", "[I", true)
  | 4 => ("YoungerBackModel", "item", "[I", true)
  | 5 => ("YoungerBackModel", "league", "[I", true)
  | 6 => ("YoungerBackModel", "fresh", "[I", true)
  | 7 => ("YoungerBackModel", "was", "[I", true)
  | 8 => ("YoungerBackModel", "acts", "I", false)
  | 9 => ("YoungerBackModel", "tape", "[I", true)
  | 10 => ("YoungerBackModel", "taped", "I", false)
  | 11 => ("YoungerBackModel", "latest", "I", false)
  | 12 => ("YoungerBackModel", "length", "I", false)
  | 13 => ("YoungerBackModel", "cursor", "I", false)
  | 14 => ("YoungerBackModel", "token", "I", false)
  | 15 => ("YoungerBackModel", "start", "I", false)
  | 16 => ("YoungerBackModel", "till", "I", false)
  | 17 => ("YoungerBackModel", "fault", "I", false)
  | 18 => ("YoungerBackModel", "faultAt", "I", false)
  | 19 => ("YoungerBackModel", "gained", "[J", true)
  | 20 => ("YoungerBackModel", "others", "[J", true)
  | 21 => ("YoungerBackModel", "isKept", "[Z", true)
  | 22 => ("YoungerBackModel", "kept", "[I", true)
  | 23 => ("YoungerBackModel", "trace", "[I", true)
  | _ => ("YoungerBackModel", "traced", "I", false)
def tyX8 : Nat → FieldType := fun k => match k with
  | 0 => .int
  | 1 => .int
  | 2 => .array .int
  | 3 => .array .int
  | 4 => .array .int
  | 5 => .array .int
  | 6 => .array .int
  | 7 => .array .int
  | 8 => .int
  | 9 => .array .int
  | 10 => .int
  | 11 => .int
  | 12 => .int
  | 13 => .int
  | 14 => .int
  | 15 => .int
  | 16 => .int
  | 17 => .int
  | 18 => .int
  | 19 => .array .long
  | 20 => .array .long
  | 21 => .array .boolean
  | 22 => .array .int
  | 23 => .array .int
  | _ => .int
abbrev wsX80 : List Cond := u_ws RX8 TX8 25
theorem nmX8 : ∀ a, a < 25 → ∀ b, b < 25 → a ≠ b → (TX8 a).2.1 ≠ (TX8 b).2.1 := by decide +kernel
theorem tyX8_ok : ∀ k, k < 25 → parseFieldDescriptor (TX8 k).2.2.1 = some (tyX8 k) := by decide +kernel
abbrev cX8_init : ByteArray := prog_10_method_1_code
def yX8_init : MethodName := ⟨RX8, "<init>", "()V"⟩
abbrev cX8_in : ByteArray := prog_10_method_3_code
def yX8_in : MethodName := ⟨RX8, "in", "(JJJ)Z"⟩
abbrev cX8_finding : ByteArray := prog_10_method_4_code
def yX8_finding : MethodName := ⟨RX8, "finding", "(I)I"⟩
abbrev cX8_isRow : ByteArray := prog_10_method_5_code
def yX8_isRow : MethodName := ⟨RX8, "isRow", "(I)Z"⟩
abbrev cX8_row : ByteArray := prog_10_method_6_code
def yX8_row : MethodName := ⟨RX8, "row", "(III)I"⟩
abbrev cX8_set : ByteArray := prog_10_method_7_code
def yX8_set : MethodName := ⟨RX8, "set", "(III)I"⟩
abbrev cX8_copy : ByteArray := prog_10_method_8_code
def yX8_copy : MethodName := ⟨RX8, "copy", "(IIIII)I"⟩
abbrev cX8_drop : ByteArray := prog_10_method_9_code
def yX8_drop : MethodName := ⟨RX8, "drop", "(I)I"⟩
abbrev cX8_feed : ByteArray := prog_10_method_10_code
def yX8_feed : MethodName := ⟨RX8, "feed", "(JI)I"⟩
abbrev cX8_byteAt : ByteArray := prog_10_method_11_code
def yX8_byteAt : MethodName := ⟨RX8, "byteAt", "(I)I"⟩
abbrev cX8_isLetter : ByteArray := prog_10_method_12_code
def yX8_isLetter : MethodName := ⟨RX8, "isLetter", "(I)Z"⟩
abbrev cX8_isFigure : ByteArray := prog_10_method_13_code
def yX8_isFigure : MethodName := ⟨RX8, "isFigure", "(I)Z"⟩
abbrev cX8_next : ByteArray := prog_10_method_14_code
def yX8_next : MethodName := ⟨RX8, "next", "()V"⟩
abbrev cX8_begin : ByteArray := prog_10_method_15_code
def yX8_begin : MethodName := ⟨RX8, "begin", "()V"⟩
abbrev cX8_bad : ByteArray := prog_10_method_16_code
def yX8_bad : MethodName := ⟨RX8, "bad", "(I)V"⟩
abbrev cX8_must : ByteArray := prog_10_method_17_code
def yX8_must : MethodName := ⟨RX8, "must", "(Z)V"⟩
abbrev cX8_name : ByteArray := prog_10_method_18_code
def yX8_name : MethodName := ⟨RX8, "name", "()J"⟩
abbrev cX8_figures : ByteArray := prog_10_method_19_code
def yX8_figures : MethodName := ⟨RX8, "figures", "()I"⟩
abbrev cX8_number : ByteArray := prog_10_method_20_code
def yX8_number : MethodName := ⟨RX8, "number", "(II)I"⟩
abbrev cX8_kindBy : ByteArray := prog_10_method_21_code
def yX8_kindBy : MethodName := ⟨RX8, "kindBy", "(J)I"⟩
abbrev cX8_mustEnd : ByteArray := prog_10_method_22_code
def yX8_mustEnd : MethodName := ⟨RX8, "mustEnd", "()V"⟩
abbrev cX8_begins : ByteArray := prog_10_method_23_code
def yX8_begins : MethodName := ⟨RX8, "begins", "(II)V"⟩
abbrev cX8_readWay : ByteArray := prog_10_method_24_code
def yX8_readWay : MethodName := ⟨RX8, "readWay", "()V"⟩
abbrev cX8_readPerson : ByteArray := prog_10_method_25_code
def yX8_readPerson : MethodName := ⟨RX8, "readPerson", "()V"⟩
abbrev cX8_league : ByteArray := prog_10_method_26_code
def yX8_league : MethodName := ⟨RX8, "league", "()I"⟩
abbrev cX8_fault : ByteArray := prog_10_method_27_code
def yX8_fault : MethodName := ⟨RX8, "fault", "()I"⟩
abbrev cX8_isThere : ByteArray := prog_10_method_28_code
def yX8_isThere : MethodName := ⟨RX8, "isThere", "()Z"⟩
abbrev cX8_isPerson : ByteArray := prog_10_method_29_code
def yX8_isPerson : MethodName := ⟨RX8, "isPerson", "(I)Z"⟩
abbrev cX8_isWay : ByteArray := prog_10_method_30_code
def yX8_isWay : MethodName := ⟨RX8, "isWay", "(I)Z"⟩
abbrev cX8_isHarbour : ByteArray := prog_10_method_31_code
def yX8_isHarbour : MethodName := ⟨RX8, "isHarbour", "(I)Z"⟩
abbrev cX8_of : ByteArray := prog_10_method_32_code
def yX8_of : MethodName := ⟨RX8, "of", "(II)I"⟩
abbrev cX8_wayOf : ByteArray := prog_10_method_33_code
def yX8_wayOf : MethodName := ⟨RX8, "wayOf", "(II)I"⟩
abbrev cX8_endOf : ByteArray := prog_10_method_34_code
def yX8_endOf : MethodName := ⟨RX8, "endOf", "(III)I"⟩
abbrev cX8_agesBy : ByteArray := prog_10_method_35_code
def yX8_agesBy : MethodName := ⟨RX8, "agesBy", "(II)I"⟩
abbrev cX8_keep : ByteArray := prog_10_method_36_code
def yX8_keep : MethodName := ⟨RX8, "keep", "()V"⟩
abbrev cX8_ages : ByteArray := prog_10_method_37_code
def yX8_ages : MethodName := ⟨RX8, "ages", "(III)V"⟩
abbrev cX8_goes : ByteArray := prog_10_method_38_code
def yX8_goes : MethodName := ⟨RX8, "goes", "(II)I"⟩
abbrev cX8_sail : ByteArray := prog_10_method_39_code
def yX8_sail : MethodName := ⟨RX8, "sail", "(II)I"⟩
abbrev cX8_sails : ByteArray := prog_10_method_40_code
def yX8_sails : MethodName := ⟨RX8, "sails", "(IIII)I"⟩
abbrev cX8_stay : ByteArray := prog_10_method_41_code
def yX8_stay : MethodName := ⟨RX8, "stay", "(II)I"⟩
abbrev cX8_meet : ByteArray := prog_10_method_42_code
def yX8_meet : MethodName := ⟨RX8, "meet", "(II)I"⟩
abbrev cX8_grown : ByteArray := prog_10_method_43_code
def yX8_grown : MethodName := ⟨RX8, "grown", "(II)I"⟩
abbrev cX8_owedBy : ByteArray := prog_10_method_44_code
def yX8_owedBy : MethodName := ⟨RX8, "owedBy", "(II)I"⟩
abbrev cX8_borrow : ByteArray := prog_10_method_45_code
def yX8_borrow : MethodName := ⟨RX8, "borrow", "(II)I"⟩
abbrev cX8_undo : ByteArray := prog_10_method_46_code
def yX8_undo : MethodName := ⟨RX8, "undo", "()I"⟩
abbrev cX8_person : ByteArray := prog_10_method_47_code
def yX8_person : MethodName := ⟨RX8, "person", "(II)I"⟩
abbrev cX8_layGains : ByteArray := prog_10_method_48_code
def yX8_layGains : MethodName := ⟨RX8, "layGains", "(I)V"⟩
abbrev cX8_gains : ByteArray := prog_10_method_49_code
def yX8_gains : MethodName := ⟨RX8, "gains", "(IIII)I"⟩
abbrev cX8_soonest : ByteArray := prog_10_method_50_code
def yX8_soonest : MethodName := ⟨RX8, "soonest", "(III)I"⟩
abbrev cX8_voyages : ByteArray := prog_10_method_51_code
def yX8_voyages : MethodName := ⟨RX8, "voyages", "(II)I"⟩
abbrev cX8_even : ByteArray := prog_10_method_52_code
def yX8_even : MethodName := ⟨RX8, "even", "(III)I"⟩
abbrev cX8_where : ByteArray := prog_10_method_53_code
def yX8_where : MethodName := ⟨RX8, "where", "(III)I"⟩
abbrev cX8_gone : ByteArray := prog_10_method_54_code
def yX8_gone : MethodName := ⟨RX8, "gone", "(I)I"⟩
abbrev cX8_eldest : ByteArray := prog_10_method_55_code
def yX8_eldest : MethodName := ⟨RX8, "eldest", "(I)I"⟩
abbrev cX8_image : ByteArray := prog_10_method_56_code
def yX8_image : MethodName := ⟨RX8, "image", "(I)I"⟩
abbrev cX8_restore : ByteArray := prog_10_method_57_code
def yX8_restore : MethodName := ⟨RX8, "restore", "(I)I"⟩
abbrev cX8_isOf : ByteArray := prog_10_method_58_code
def yX8_isOf : MethodName := ⟨RX8, "isOf", "(II)Z"⟩
abbrev cX8_kind : ByteArray := prog_10_method_59_code
def yX8_kind : MethodName := ⟨RX8, "kind", "(I)I"⟩
abbrev cX8_as : ByteArray := prog_10_method_60_code
def yX8_as : MethodName := ⟨RX8, "as", "(II)I"⟩
abbrev cX8_began : ByteArray := prog_10_method_61_code
def yX8_began : MethodName := ⟨RX8, "began", "(I)V"⟩
abbrev cX8_plainSize : ByteArray := prog_10_method_62_code
def yX8_plainSize : MethodName := ⟨RX8, "plainSize", "(I)I"⟩
abbrev cX8_clerkSize : ByteArray := prog_10_method_63_code
def yX8_clerkSize : MethodName := ⟨RX8, "clerkSize", "(I)I"⟩
abbrev cX8_markOf : ByteArray := prog_10_method_64_code
def yX8_markOf : MethodName := ⟨RX8, "markOf", "(I)I"⟩
abbrev cX8_sizeOf : ByteArray := prog_10_method_65_code
def yX8_sizeOf : MethodName := ⟨RX8, "sizeOf", "(I)I"⟩
abbrev cX8_ask : ByteArray := prog_10_method_66_code
def yX8_ask : MethodName := ⟨RX8, "ask", "(II)I"⟩
abbrev cX8_trace : ByteArray := prog_10_method_67_code
def yX8_trace : MethodName := ⟨RX8, "trace", "(I)I"⟩
abbrev cX8_count : ByteArray := prog_10_method_68_code
def yX8_count : MethodName := ⟨RX8, "count", "(I)I"⟩
abbrev cX8_status : ByteArray := prog_10_method_69_code
def yX8_status : MethodName := ⟨RX8, "status", "()I"⟩
def RJ6 : String := "java/lang/Integer"
def TJ6 : u_T := fun k => match k with
  | _ => ("", "", "", false)
def tyJ6 : Nat → FieldType := fun k => match k with
  | _ => .int
abbrev wsJ60 : List Cond := u_ws RJ6 TJ6 0
theorem nmJ6 : ∀ a, a < 0 → ∀ b, b < 0 → a ≠ b → (TJ6 a).2.1 ≠ (TJ6 b).2.1 := by decide +kernel
theorem tyJ6_ok : ∀ k, k < 0 → parseFieldDescriptor (TJ6 k).2.2.1 = some (tyJ6 k) := by decide +kernel
abbrev cJ6_numberOfLeadingZeros_0f7a4 : ByteArray := prog_11_method_47_code
def yJ6_numberOfLeadingZeros_0f7a4 : MethodName := ⟨RJ6, "numberOfLeadingZeros", "(I)I"⟩
abbrev cJ6_numberOfTrailingZeros_0f7a4 : ByteArray := prog_11_method_48_code
def yJ6_numberOfTrailingZeros_0f7a4 : MethodName := ⟨RJ6, "numberOfTrailingZeros", "(I)I"⟩
def RJ13 : String := "java/lang/Long"
def TJ13 : u_T := fun k => match k with
  | _ => ("", "", "", false)
def tyJ13 : Nat → FieldType := fun k => match k with
  | _ => .int
abbrev wsJ130 : List Cond := u_ws RJ13 TJ13 0
theorem nmJ13 : ∀ a, a < 0 → ∀ b, b < 0 → a ≠ b → (TJ13 a).2.1 ≠ (TJ13 b).2.1 := by decide +kernel
theorem tyJ13_ok : ∀ k, k < 0 → parseFieldDescriptor (TJ13 k).2.2.1 = some (tyJ13 k) := by decide +kernel
abbrev cJ13_numberOfLeadingZeros_95d88 : ByteArray := prog_12_method_48_code
def yJ13_numberOfLeadingZeros_95d88 : MethodName := ⟨RJ13, "numberOfLeadingZeros", "(J)I"⟩
abbrev cJ13_numberOfTrailingZeros_95d88 : ByteArray := prog_12_method_49_code
def yJ13_numberOfTrailingZeros_95d88 : MethodName := ⟨RJ13, "numberOfTrailingZeros", "(J)I"⟩
abbrev cJ13_bitCount_95d88 : ByteArray := prog_12_method_50_code
def yJ13_bitCount_95d88 : MethodName := ⟨RJ13, "bitCount", "(J)I"⟩
def RJ9 : String := "java/lang/Math"
def TJ9 : u_T := fun k => match k with
  | _ => ("", "", "", false)
def tyJ9 : Nat → FieldType := fun k => match k with
  | _ => .int
abbrev wsJ90 : List Cond := u_ws RJ9 TJ9 0
theorem nmJ9 : ∀ a, a < 0 → ∀ b, b < 0 → a ≠ b → (TJ9 a).2.1 ≠ (TJ9 b).2.1 := by decide +kernel
theorem tyJ9_ok : ∀ k, k < 0 → parseFieldDescriptor (TJ9 k).2.2.1 = some (tyJ9 k) := by decide +kernel
abbrev cJ9_max_7cf53 : ByteArray := prog_13_method_65_code
def yJ9_max_7cf53 : MethodName := ⟨RJ9, "max", "(II)I"⟩
abbrev cJ9_min_7cf53 : ByteArray := prog_13_method_69_code
def yJ9_min_7cf53 : MethodName := ⟨RJ9, "min", "(II)I"⟩
abbrev cJ9_min_f86c9 : ByteArray := prog_13_method_70_code
def yJ9_min_f86c9 : MethodName := ⟨RJ9, "min", "(JJ)J"⟩
def RJ0 : String := "java/lang/String"
def TJ0 : u_T := fun k => match k with
  | _ => ("", "", "", false)
def tyJ0 : Nat → FieldType := fun k => match k with
  | _ => .int
abbrev wsJ00 : List Cond := u_ws RJ0 TJ0 0
theorem nmJ0 : ∀ a, a < 0 → ∀ b, b < 0 → a ≠ b → (TJ0 a).2.1 ≠ (TJ0 b).2.1 := by decide +kernel
theorem tyJ0_ok : ∀ k, k < 0 → parseFieldDescriptor (TJ0 k).2.2.1 = some (tyJ0 k) := by decide +kernel
abbrev cJ0_length_8abf5 : ByteArray := prog_14_method_54_code
def yJ0_length_8abf5 : MethodName := ⟨RJ0, "length", "()I"⟩
abbrev cJ0_charAt_5068e : ByteArray := prog_14_method_56_code
def yJ0_charAt_5068e : MethodName := ⟨RJ0, "charAt", "(I)C"⟩
abbrev cJ0_coder_7d493 : ByteArray := prog_14_method_152_code
def yJ0_coder_7d493 : MethodName := ⟨RJ0, "coder", "()B"⟩
abbrev cJ0_isLatin1_aae02 : ByteArray := prog_14_method_154_code
def yJ0_isLatin1_aae02 : MethodName := ⟨RJ0, "isLatin1", "()Z"⟩
abbrev cJ0_checkIndex_df160 : ByteArray := prog_14_method_155_code
def yJ0_checkIndex_df160 : MethodName := ⟨RJ0, "checkIndex", "(II)V"⟩
def RJ1 : String := "java/lang/StringLatin1"
def TJ1 : u_T := fun k => match k with
  | _ => ("", "", "", false)
def tyJ1 : Nat → FieldType := fun k => match k with
  | _ => .int
abbrev wsJ10 : List Cond := u_ws RJ1 TJ1 0
theorem nmJ1 : ∀ a, a < 0 → ∀ b, b < 0 → a ≠ b → (TJ1 a).2.1 ≠ (TJ1 b).2.1 := by decide +kernel
theorem tyJ1_ok : ∀ k, k < 0 → parseFieldDescriptor (TJ1 k).2.2.1 = some (tyJ1 k) := by decide +kernel
abbrev cJ1_charAt_3b067 : ByteArray := prog_15_method_2_code
def yJ1_charAt_3b067 : MethodName := ⟨RJ1, "charAt", "([BI)C"⟩
def RJ2 : String := "java/lang/StringUTF16"
def TJ2 : u_T := fun k => match k with
  | _ => ("", "", "", false)
def tyJ2 : Nat → FieldType := fun k => match k with
  | _ => .int
abbrev wsJ20 : List Cond := u_ws RJ2 TJ2 0
theorem nmJ2 : ∀ a, a < 0 → ∀ b, b < 0 → a ≠ b → (TJ2 a).2.1 ≠ (TJ2 b).2.1 := by decide +kernel
theorem tyJ2_ok : ∀ k, k < 0 → parseFieldDescriptor (TJ2 k).2.2.1 = some (tyJ2 k) := by decide +kernel
abbrev cJ2_getChar_3b067 : ByteArray := prog_16_method_5_code
def yJ2_getChar_3b067 : MethodName := ⟨RJ2, "getChar", "([BI)C"⟩
abbrev cJ2_length_9d52b : ByteArray := prog_16_method_6_code
def yJ2_length_9d52b : MethodName := ⟨RJ2, "length", "([B)I"⟩
abbrev cJ2_charAt_3b067 : ByteArray := prog_16_method_83_code
def yJ2_charAt_3b067 : MethodName := ⟨RJ2, "charAt", "([BI)C"⟩
abbrev cJ2_checkIndex_2214a : ByteArray := prog_16_method_91_code
def yJ2_checkIndex_2214a : MethodName := ⟨RJ2, "checkIndex", "(I[B)V"⟩
def RJ10 : String := "java/lang/System"
def TJ10 : u_T := fun k => match k with
  | _ => ("", "", "", false)
def tyJ10 : Nat → FieldType := fun k => match k with
  | _ => .int
abbrev wsJ100 : List Cond := u_ws RJ10 TJ10 0
theorem nmJ10 : ∀ a, a < 0 → ∀ b, b < 0 → a ≠ b → (TJ10 a).2.1 ≠ (TJ10 b).2.1 := by decide +kernel
theorem tyJ10_ok : ∀ k, k < 0 → parseFieldDescriptor (TJ10 k).2.2.1 = some (tyJ10 k) := by decide +kernel
def RJ3 : String := "jdk/internal/util/Preconditions"
def TJ3 : u_T := fun k => match k with
  | _ => ("", "", "", false)
def tyJ3 : Nat → FieldType := fun k => match k with
  | _ => .int
abbrev wsJ30 : List Cond := u_ws RJ3 TJ3 0
theorem nmJ3 : ∀ a, a < 0 → ∀ b, b < 0 → a ≠ b → (TJ3 a).2.1 ≠ (TJ3 b).2.1 := by decide +kernel
theorem tyJ3_ok : ∀ k, k < 0 → parseFieldDescriptor (TJ3 k).2.2.1 = some (tyJ3 k) := by decide +kernel
abbrev cJ3_checkIndex_8e157 : ByteArray := prog_18_method_11_code
def yJ3_checkIndex_8e157 : MethodName := ⟨RJ3, "checkIndex", "(IILjava/util/function/BiFunction;)I"⟩
def RL : String := "YoungerBackLaw"
abbrev cL_law : ByteArray := code
def yL_law : MethodName := ⟨RL, "law", "([I)Z"⟩
abbrev vwCl : List vw_C := [(RX0, TX0, 3), (RX1, TX1, 2), (RX2, TX2, 1), (RX3, TX3, 6), (RX4, TX4, 8), (RX5, TX5, 8), (RX6, TX6, 4), (RX7, TX7, 15), (RX8, TX8, 25)]
end
section
/-! ===== the words that pass from a method to those that it calls, by their places in the tables ===== -/
def zts : List Cond := (k2_sels lw_privs ++ tables_1).filter goodWord
theorem zts_r {w : Cond} (i : Nat) (h : tables_1[i]? = some w) (hg : goodWord w = true) : w ∈ zts := List.mem_filter.mpr ⟨List.mem_append_right _ (List.mem_of_getElem? h), hg⟩
theorem zts_p {w : Cond} (i : Nat) (h : (k2_sels lw_privs)[i]? = some w) (hg : goodWord w = true) : w ∈ zts := List.mem_filter.mpr ⟨List.mem_append_left _ (List.mem_of_getElem? h), hg⟩
theorem zts_sub {w : Cond} (h : w ∈ zts) : w ∈ lw_tbl := (List.mem_filter.mp h).1
theorem wd_0 : (Jvm.Cond.initialized "YoungerBackLaw") ∈ zts := zts_r 0 (by decide +kernel) (by decide +kernel)
theorem wd_1 : (Jvm.Cond.initialized "YoungerBack") ∈ zts := zts_r 1 (by decide +kernel) (by decide +kernel)
theorem wd_2 : (Jvm.Cond.initialized "YoungerBack$Tape") ∈ zts := zts_r 2 (by decide +kernel) (by decide +kernel)
theorem wd_3 : (Jvm.Cond.initialized "YoungerBack$League") ∈ zts := zts_r 3 (by decide +kernel) (by decide +kernel)
theorem wd_4 : (Jvm.Cond.initialized "YoungerBack$Way") ∈ zts := zts_r 4 (by decide +kernel) (by decide +kernel)
theorem wd_5 : (Jvm.Cond.initialized "YoungerBack$Person") ∈ zts := zts_r 5 (by decide +kernel) (by decide +kernel)
theorem wd_6 : (Jvm.Cond.initialized "YoungerBack$Acts") ∈ zts := zts_r 6 (by decide +kernel) (by decide +kernel)
theorem wd_7 : (Jvm.Cond.initialized "YoungerBack$Foretold") ∈ zts := zts_r 7 (by decide +kernel) (by decide +kernel)
theorem wd_8 : (Jvm.Cond.initialized "YoungerBack$Asking") ∈ zts := zts_r 8 (by decide +kernel) (by decide +kernel)
theorem wd_9 : (Jvm.Cond.initialized "YoungerBackModel") ∈ zts := zts_r 9 (by decide +kernel) (by decide +kernel)
theorem wd_10 : (Jvm.Cond.initialized "java/lang/System") ∈ zts := zts_r 10 (by decide +kernel) (by decide +kernel)
theorem wd_11 : (Jvm.Cond.initialized "java/lang/String") ∈ zts := zts_r 11 (by decide +kernel) (by decide +kernel)
theorem wd_12 : (Jvm.Cond.initialized "java/lang/StringLatin1") ∈ zts := zts_r 12 (by decide +kernel) (by decide +kernel)
theorem wd_13 : (Jvm.Cond.initialized "jdk/internal/util/Preconditions") ∈ zts := zts_r 13 (by decide +kernel) (by decide +kernel)
theorem wd_14 : (Jvm.Cond.initialized "java/lang/StringUTF16") ∈ zts := zts_r 14 (by decide +kernel) (by decide +kernel)
theorem wd_15 : (Jvm.Cond.initialized "java/lang/Math") ∈ zts := zts_r 15 (by decide +kernel) (by decide +kernel)
theorem wd_16 : (Jvm.Cond.initialized "java/lang/Long") ∈ zts := zts_r 16 (by decide +kernel) (by decide +kernel)
theorem wd_17 : (Jvm.Cond.initialized "java/lang/Integer") ∈ zts := zts_r 17 (by decide +kernel) (by decide +kernel)
theorem wd_18 : (Jvm.Cond.classLink "YoungerBackLaw" (7 : Nat) "YoungerBack") ∈ zts := zts_r 18 (by decide +kernel) (by decide +kernel)
theorem wd_19 : (Jvm.Cond.instantiable "YoungerBack" (15 : Nat)) ∈ zts := zts_r 19 (by decide +kernel) (by decide +kernel)
theorem wd_20 : (Jvm.Cond.methodLink "YoungerBackLaw" (9 : Nat) ({ cls := "YoungerBack", name := "<init>", desc := "()V" } : Jvm.MethodName)) ∈ zts := zts_r 20 (by decide +kernel) (by decide +kernel)
theorem wd_21 : (Jvm.Cond.instanceMethod ({ cls := "YoungerBack", name := "<init>", desc := "()V" } : Jvm.MethodName)) ∈ zts := zts_r 21 (by decide +kernel) (by decide +kernel)
theorem wd_22 : (Jvm.Cond.code ({ cls := "YoungerBack", name := "<init>", desc := "()V" } : Jvm.MethodName) prog_1_method_1_code (2 : Nat) (Option.none : Option Jvm.ClassFile.FieldType)) ∈ zts := zts_r 22 (by decide +kernel) (by decide +kernel)
theorem wd_23 : (Jvm.Cond.methodLink "YoungerBack" (1 : Nat) ({ cls := "java/lang/Object", name := "<init>", desc := "()V" } : Jvm.MethodName)) ∈ zts := zts_r 23 (by decide +kernel) (by decide +kernel)
theorem wd_24 : (Jvm.Cond.instanceMethod ({ cls := "java/lang/Object", name := "<init>", desc := "()V" } : Jvm.MethodName)) ∈ zts := zts_r 24 (by decide +kernel) (by decide +kernel)
theorem wd_25 : (Jvm.Cond.code ({ cls := "java/lang/Object", name := "<init>", desc := "()V" } : Jvm.MethodName) object_method_1_code (1 : Nat) (Option.none : Option Jvm.ClassFile.FieldType)) ∈ zts := zts_r 25 (by decide +kernel) (by decide +kernel)
theorem wd_26 : (Jvm.Cond.classLink "YoungerBack" (9 : Nat) "[[I") ∈ zts := zts_r 26 (by decide +kernel) (by decide +kernel)
theorem wd_28 : (Jvm.Cond.classLink "YoungerBack" (25 : Nat) "YoungerBack$Tape") ∈ zts := zts_r 28 (by decide +kernel) (by decide +kernel)
theorem wd_29 : (Jvm.Cond.instantiable "YoungerBack$Tape" (8 : Nat)) ∈ zts := zts_r 29 (by decide +kernel) (by decide +kernel)
theorem wd_31 : (Jvm.Cond.instanceMethod ({ cls := "YoungerBack$Tape", name := "<init>", desc := "()V" } : Jvm.MethodName)) ∈ zts := zts_r 31 (by decide +kernel) (by decide +kernel)
theorem wd_32 : (Jvm.Cond.code ({ cls := "YoungerBack$Tape", name := "<init>", desc := "()V" } : Jvm.MethodName) prog_7_method_1_code (1 : Nat) (Option.none : Option Jvm.ClassFile.FieldType)) ∈ zts := zts_r 32 (by decide +kernel) (by decide +kernel)
theorem wd_33 : (Jvm.Cond.methodLink "YoungerBack$Tape" (3 : Nat) ({ cls := "java/lang/Object", name := "<init>", desc := "()V" } : Jvm.MethodName)) ∈ zts := zts_r 33 (by decide +kernel) (by decide +kernel)
theorem wd_34 : (Jvm.Cond.fieldLink "YoungerBack$Tape" (9 : Nat) "YoungerBack$Tape" "bytes" "[I") ∈ zts := zts_r 34 (by decide +kernel) (by decide +kernel)
theorem wd_35 : (Jvm.Cond.fieldLink "YoungerBack$Tape" (15 : Nat) "YoungerBack$Tape" "many" "I") ∈ zts := zts_r 35 (by decide +kernel) (by decide +kernel)
theorem wd_36 : (Jvm.Cond.fieldLink "YoungerBack" (113 : Nat) "YoungerBack$Tape" "many" "I") ∈ zts := zts_r 36 (by decide +kernel) (by decide +kernel)
theorem wd_37 : (Jvm.Cond.fieldLink "YoungerBack$Tape" (19 : Nat) "YoungerBack$Tape" "token" "I") ∈ zts := zts_r 37 (by decide +kernel) (by decide +kernel)
theorem wd_38 : (Jvm.Cond.fieldLink "YoungerBack$Tape" (22 : Nat) "YoungerBack$Tape" "start" "I") ∈ zts := zts_r 38 (by decide +kernel) (by decide +kernel)
theorem wd_39 : (Jvm.Cond.fieldLink "YoungerBack$Tape" (25 : Nat) "YoungerBack$Tape" "behind" "I") ∈ zts := zts_r 39 (by decide +kernel) (by decide +kernel)
theorem wd_40 : (Jvm.Cond.fieldLink "YoungerBack$Tape" (28 : Nat) "YoungerBack$Tape" "value" "I") ∈ zts := zts_r 40 (by decide +kernel) (by decide +kernel)
theorem wd_41 : (Jvm.Cond.fieldLink "YoungerBack$Tape" (31 : Nat) "YoungerBack$Tape" "fault" "I") ∈ zts := zts_r 41 (by decide +kernel) (by decide +kernel)
theorem wd_42 : (Jvm.Cond.fieldLink "YoungerBack" (125 : Nat) "YoungerBack$Tape" "fault" "I") ∈ zts := zts_r 42 (by decide +kernel) (by decide +kernel)
theorem wd_43 : (Jvm.Cond.fieldLink "YoungerBack$Tape" (34 : Nat) "YoungerBack$Tape" "faultPlace" "I") ∈ zts := zts_r 43 (by decide +kernel) (by decide +kernel)
theorem wd_44 : (Jvm.Cond.fieldLink "YoungerBack" (129 : Nat) "YoungerBack$Tape" "faultPlace" "I") ∈ zts := zts_r 44 (by decide +kernel) (by decide +kernel)
theorem wd_45 : (Jvm.Cond.laysFinal "YoungerBack$Tape" "YoungerBack$Tape" "bytes" "[I") ∈ zts := zts_r 45 (by decide +kernel) (by decide +kernel)
theorem wd_47 : (Jvm.Cond.lays "YoungerBack$Tape" "YoungerBack$Tape" "many" "I") ∈ zts := zts_r 47 (by decide +kernel) (by decide +kernel)
theorem wd_49 : (Jvm.Cond.lays "YoungerBack$Tape" "YoungerBack$Tape" "token" "I") ∈ zts := zts_r 49 (by decide +kernel) (by decide +kernel)
theorem wd_51 : (Jvm.Cond.lays "YoungerBack$Tape" "YoungerBack$Tape" "start" "I") ∈ zts := zts_r 51 (by decide +kernel) (by decide +kernel)
theorem wd_53 : (Jvm.Cond.lays "YoungerBack$Tape" "YoungerBack$Tape" "behind" "I") ∈ zts := zts_r 53 (by decide +kernel) (by decide +kernel)
theorem wd_55 : (Jvm.Cond.lays "YoungerBack$Tape" "YoungerBack$Tape" "value" "I") ∈ zts := zts_r 55 (by decide +kernel) (by decide +kernel)
theorem wd_57 : (Jvm.Cond.lays "YoungerBack$Tape" "YoungerBack$Tape" "fault" "I") ∈ zts := zts_r 57 (by decide +kernel) (by decide +kernel)
theorem wd_59 : (Jvm.Cond.lays "YoungerBack$Tape" "YoungerBack$Tape" "faultPlace" "I") ∈ zts := zts_r 59 (by decide +kernel) (by decide +kernel)
theorem wd_62 : (Jvm.Cond.arrayClass Jvm.ClassFile.FieldType.int) ∈ zts := zts_r 62 (by decide +kernel) (by decide +kernel)
theorem wd_63 : (Jvm.Cond.classLink "YoungerBack" (39 : Nat) "YoungerBack$League") ∈ zts := zts_r 63 (by decide +kernel) (by decide +kernel)
theorem wd_64 : (Jvm.Cond.instantiable "YoungerBack$League" (6 : Nat)) ∈ zts := zts_r 64 (by decide +kernel) (by decide +kernel)
theorem wd_65 : (Jvm.Cond.methodLink "YoungerBack" (41 : Nat) ({ cls := "YoungerBack$League", name := "<init>", desc := "()V" } : Jvm.MethodName)) ∈ zts := zts_r 65 (by decide +kernel) (by decide +kernel)
theorem wd_66 : (Jvm.Cond.instanceMethod ({ cls := "YoungerBack$League", name := "<init>", desc := "()V" } : Jvm.MethodName)) ∈ zts := zts_r 66 (by decide +kernel) (by decide +kernel)
theorem wd_67 : (Jvm.Cond.code ({ cls := "YoungerBack$League", name := "<init>", desc := "()V" } : Jvm.MethodName) prog_5_method_1_code (2 : Nat) (Option.none : Option Jvm.ClassFile.FieldType)) ∈ zts := zts_r 67 (by decide +kernel) (by decide +kernel)
theorem wd_68 : (Jvm.Cond.methodLink "YoungerBack$League" (3 : Nat) ({ cls := "java/lang/Object", name := "<init>", desc := "()V" } : Jvm.MethodName)) ∈ zts := zts_r 68 (by decide +kernel) (by decide +kernel)
theorem wd_69 : (Jvm.Cond.classLink "YoungerBack$League" (24 : Nat) "YoungerBack$Way") ∈ zts := zts_r 69 (by decide +kernel) (by decide +kernel)
theorem wd_71 : (Jvm.Cond.classLink "YoungerBack$League" (30 : Nat) "YoungerBack$Person") ∈ zts := zts_r 71 (by decide +kernel) (by decide +kernel)
theorem wd_73 : (Jvm.Cond.instantiable "YoungerBack$Way" (4 : Nat)) ∈ zts := zts_r 73 (by decide +kernel) (by decide +kernel)
theorem wd_75 : (Jvm.Cond.instanceMethod ({ cls := "YoungerBack$Way", name := "<init>", desc := "()V" } : Jvm.MethodName)) ∈ zts := zts_r 75 (by decide +kernel) (by decide +kernel)
theorem wd_76 : (Jvm.Cond.code ({ cls := "YoungerBack$Way", name := "<init>", desc := "()V" } : Jvm.MethodName) prog_8_method_1_code (1 : Nat) (Option.none : Option Jvm.ClassFile.FieldType)) ∈ zts := zts_r 76 (by decide +kernel) (by decide +kernel)
theorem wd_77 : (Jvm.Cond.methodLink "YoungerBack$Way" (1 : Nat) ({ cls := "java/lang/Object", name := "<init>", desc := "()V" } : Jvm.MethodName)) ∈ zts := zts_r 77 (by decide +kernel) (by decide +kernel)
theorem wd_78 : (Jvm.Cond.fieldLink "YoungerBack$Way" (7 : Nat) "YoungerBack$Way" "a" "I") ∈ zts := zts_r 78 (by decide +kernel) (by decide +kernel)
theorem wd_79 : (Jvm.Cond.fieldLink "YoungerBack$League" (45 : Nat) "YoungerBack$Way" "a" "I") ∈ zts := zts_r 79 (by decide +kernel) (by decide +kernel)
theorem wd_80 : (Jvm.Cond.fieldLink "YoungerBack$Tape" (93 : Nat) "YoungerBack$Way" "a" "I") ∈ zts := zts_r 80 (by decide +kernel) (by decide +kernel)
theorem wd_81 : (Jvm.Cond.fieldLink "YoungerBack$Foretold" (55 : Nat) "YoungerBack$Way" "a" "I") ∈ zts := zts_r 81 (by decide +kernel) (by decide +kernel)
theorem wd_82 : (Jvm.Cond.fieldLink "YoungerBack$Way" (13 : Nat) "YoungerBack$Way" "b" "I") ∈ zts := zts_r 82 (by decide +kernel) (by decide +kernel)
theorem wd_83 : (Jvm.Cond.fieldLink "YoungerBack$League" (48 : Nat) "YoungerBack$Way" "b" "I") ∈ zts := zts_r 83 (by decide +kernel) (by decide +kernel)
theorem wd_84 : (Jvm.Cond.fieldLink "YoungerBack$Tape" (98 : Nat) "YoungerBack$Way" "b" "I") ∈ zts := zts_r 84 (by decide +kernel) (by decide +kernel)
theorem wd_85 : (Jvm.Cond.fieldLink "YoungerBack$Foretold" (58 : Nat) "YoungerBack$Way" "b" "I") ∈ zts := zts_r 85 (by decide +kernel) (by decide +kernel)
theorem wd_86 : (Jvm.Cond.fieldLink "YoungerBack$Way" (16 : Nat) "YoungerBack$Way" "shore" "I") ∈ zts := zts_r 86 (by decide +kernel) (by decide +kernel)
theorem wd_87 : (Jvm.Cond.fieldLink "YoungerBack$Tape" (101 : Nat) "YoungerBack$Way" "shore" "I") ∈ zts := zts_r 87 (by decide +kernel) (by decide +kernel)
theorem wd_88 : (Jvm.Cond.fieldLink "YoungerBack$Foretold" (46 : Nat) "YoungerBack$Way" "shore" "I") ∈ zts := zts_r 88 (by decide +kernel) (by decide +kernel)
theorem wd_89 : (Jvm.Cond.fieldLink "YoungerBack$Person" (36 : Nat) "YoungerBack$Way" "shore" "I") ∈ zts := zts_r 89 (by decide +kernel) (by decide +kernel)
theorem wd_90 : (Jvm.Cond.fieldLink "YoungerBack" (281 : Nat) "YoungerBack$Way" "shore" "I") ∈ zts := zts_r 90 (by decide +kernel) (by decide +kernel)
theorem wd_91 : (Jvm.Cond.fieldLink "YoungerBack$Way" (19 : Nat) "YoungerBack$Way" "own" "I") ∈ zts := zts_r 91 (by decide +kernel) (by decide +kernel)
theorem wd_92 : (Jvm.Cond.fieldLink "YoungerBack$Tape" (104 : Nat) "YoungerBack$Way" "own" "I") ∈ zts := zts_r 92 (by decide +kernel) (by decide +kernel)
theorem wd_93 : (Jvm.Cond.fieldLink "YoungerBack$Person" (41 : Nat) "YoungerBack$Way" "own" "I") ∈ zts := zts_r 93 (by decide +kernel) (by decide +kernel)
theorem wd_94 : (Jvm.Cond.lays "YoungerBack$Way" "YoungerBack$Way" "a" "I") ∈ zts := zts_r 94 (by decide +kernel) (by decide +kernel)
theorem wd_96 : (Jvm.Cond.lays "YoungerBack$Way" "YoungerBack$Way" "b" "I") ∈ zts := zts_r 96 (by decide +kernel) (by decide +kernel)
theorem wd_98 : (Jvm.Cond.lays "YoungerBack$Way" "YoungerBack$Way" "shore" "I") ∈ zts := zts_r 98 (by decide +kernel) (by decide +kernel)
theorem wd_100 : (Jvm.Cond.lays "YoungerBack$Way" "YoungerBack$Way" "own" "I") ∈ zts := zts_r 100 (by decide +kernel) (by decide +kernel)
theorem wd_103 : (Jvm.Cond.instantiable "YoungerBack$Person" (8 : Nat)) ∈ zts := zts_r 103 (by decide +kernel) (by decide +kernel)
theorem wd_105 : (Jvm.Cond.instanceMethod ({ cls := "YoungerBack$Person", name := "<init>", desc := "()V" } : Jvm.MethodName)) ∈ zts := zts_r 105 (by decide +kernel) (by decide +kernel)
theorem wd_106 : (Jvm.Cond.code ({ cls := "YoungerBack$Person", name := "<init>", desc := "()V" } : Jvm.MethodName) prog_6_method_1_code (1 : Nat) (Option.none : Option Jvm.ClassFile.FieldType)) ∈ zts := zts_r 106 (by decide +kernel) (by decide +kernel)
theorem wd_107 : (Jvm.Cond.methodLink "YoungerBack$Person" (3 : Nat) ({ cls := "java/lang/Object", name := "<init>", desc := "()V" } : Jvm.MethodName)) ∈ zts := zts_r 107 (by decide +kernel) (by decide +kernel)
theorem wd_108 : (Jvm.Cond.fieldLink "YoungerBack$Person" (9 : Nat) "YoungerBack$Person" "sort" "I") ∈ zts := zts_r 108 (by decide +kernel) (by decide +kernel)
theorem wd_109 : (Jvm.Cond.fieldLink "YoungerBack$Asking" (19 : Nat) "YoungerBack$Person" "sort" "I") ∈ zts := zts_r 109 (by decide +kernel) (by decide +kernel)
theorem wd_110 : (Jvm.Cond.fieldLink "YoungerBack" (242 : Nat) "YoungerBack$Person" "sort" "I") ∈ zts := zts_r 110 (by decide +kernel) (by decide +kernel)
theorem wd_111 : (Jvm.Cond.fieldLink "YoungerBack$Person" (15 : Nat) "YoungerBack$Person" "ageAsTold" "I") ∈ zts := zts_r 111 (by decide +kernel) (by decide +kernel)
theorem wd_112 : (Jvm.Cond.fieldLink "YoungerBack" (239 : Nat) "YoungerBack$Person" "ageAsTold" "I") ∈ zts := zts_r 112 (by decide +kernel) (by decide +kernel)
theorem wd_113 : (Jvm.Cond.fieldLink "YoungerBack$Person" (18 : Nat) "YoungerBack$Person" "at" "I") ∈ zts := zts_r 113 (by decide +kernel) (by decide +kernel)
theorem wd_114 : (Jvm.Cond.fieldLink "YoungerBack$Foretold" (23 : Nat) "YoungerBack$Person" "at" "I") ∈ zts := zts_r 114 (by decide +kernel) (by decide +kernel)
theorem wd_115 : (Jvm.Cond.fieldLink "YoungerBack" (154 : Nat) "YoungerBack$Person" "at" "I") ∈ zts := zts_r 115 (by decide +kernel) (by decide +kernel)
theorem wd_116 : (Jvm.Cond.fieldLink "YoungerBack$Asking" (59 : Nat) "YoungerBack$Person" "at" "I") ∈ zts := zts_r 116 (by decide +kernel) (by decide +kernel)
theorem wd_117 : (Jvm.Cond.fieldLink "YoungerBack$Person" (21 : Nat) "YoungerBack$Person" "clock" "I") ∈ zts := zts_r 117 (by decide +kernel) (by decide +kernel)
theorem wd_118 : (Jvm.Cond.fieldLink "YoungerBack" (159 : Nat) "YoungerBack$Person" "clock" "I") ∈ zts := zts_r 118 (by decide +kernel) (by decide +kernel)
theorem wd_119 : (Jvm.Cond.fieldLink "YoungerBack$Person" (24 : Nat) "YoungerBack$Person" "age" "I") ∈ zts := zts_r 119 (by decide +kernel) (by decide +kernel)
theorem wd_120 : (Jvm.Cond.fieldLink "YoungerBack$Asking" (53 : Nat) "YoungerBack$Person" "age" "I") ∈ zts := zts_r 120 (by decide +kernel) (by decide +kernel)
theorem wd_121 : (Jvm.Cond.fieldLink "YoungerBack" (169 : Nat) "YoungerBack$Person" "age" "I") ∈ zts := zts_r 121 (by decide +kernel) (by decide +kernel)
theorem wd_122 : (Jvm.Cond.fieldLink "YoungerBack$Person" (27 : Nat) "YoungerBack$Person" "loan" "I") ∈ zts := zts_r 122 (by decide +kernel) (by decide +kernel)
theorem wd_123 : (Jvm.Cond.fieldLink "YoungerBack$Person" (30 : Nat) "YoungerBack$Person" "loanClock" "I") ∈ zts := zts_r 123 (by decide +kernel) (by decide +kernel)
theorem wd_124 : (Jvm.Cond.fieldLink "YoungerBack$Person" (33 : Nat) "YoungerBack$Person" "loanAge" "I") ∈ zts := zts_r 124 (by decide +kernel) (by decide +kernel)
theorem wd_125 : (Jvm.Cond.lays "YoungerBack$Person" "YoungerBack$Person" "sort" "I") ∈ zts := zts_r 125 (by decide +kernel) (by decide +kernel)
theorem wd_127 : (Jvm.Cond.lays "YoungerBack$Person" "YoungerBack$Person" "ageAsTold" "I") ∈ zts := zts_r 127 (by decide +kernel) (by decide +kernel)
theorem wd_129 : (Jvm.Cond.lays "YoungerBack$Person" "YoungerBack$Person" "at" "I") ∈ zts := zts_r 129 (by decide +kernel) (by decide +kernel)
theorem wd_131 : (Jvm.Cond.lays "YoungerBack$Person" "YoungerBack$Person" "clock" "I") ∈ zts := zts_r 131 (by decide +kernel) (by decide +kernel)
theorem wd_133 : (Jvm.Cond.lays "YoungerBack$Person" "YoungerBack$Person" "age" "I") ∈ zts := zts_r 133 (by decide +kernel) (by decide +kernel)
theorem wd_135 : (Jvm.Cond.lays "YoungerBack$Person" "YoungerBack$Person" "loan" "I") ∈ zts := zts_r 135 (by decide +kernel) (by decide +kernel)
theorem wd_137 : (Jvm.Cond.lays "YoungerBack$Person" "YoungerBack$Person" "loanClock" "I") ∈ zts := zts_r 137 (by decide +kernel) (by decide +kernel)
theorem wd_139 : (Jvm.Cond.lays "YoungerBack$Person" "YoungerBack$Person" "loanAge" "I") ∈ zts := zts_r 139 (by decide +kernel) (by decide +kernel)
theorem wd_142 : (Jvm.Cond.fieldLink "YoungerBack$League" (9 : Nat) "YoungerBack$League" "harbours" "I") ∈ zts := zts_r 142 (by decide +kernel) (by decide +kernel)
theorem wd_143 : (Jvm.Cond.fieldLink "YoungerBack$Tape" (61 : Nat) "YoungerBack$League" "harbours" "I") ∈ zts := zts_r 143 (by decide +kernel) (by decide +kernel)
theorem wd_144 : (Jvm.Cond.fieldLink "YoungerBack" (236 : Nat) "YoungerBack$League" "harbours" "I") ∈ zts := zts_r 144 (by decide +kernel) (by decide +kernel)
theorem wd_145 : (Jvm.Cond.fieldLink "YoungerBack$League" (15 : Nat) "YoungerBack$League" "rate" "I") ∈ zts := zts_r 145 (by decide +kernel) (by decide +kernel)
theorem wd_146 : (Jvm.Cond.fieldLink "YoungerBack$Tape" (64 : Nat) "YoungerBack$League" "rate" "I") ∈ zts := zts_r 146 (by decide +kernel) (by decide +kernel)
theorem wd_147 : (Jvm.Cond.fieldLink "YoungerBack" (178 : Nat) "YoungerBack$League" "rate" "I") ∈ zts := zts_r 147 (by decide +kernel) (by decide +kernel)
theorem wd_148 : (Jvm.Cond.fieldLink "YoungerBack$League" (18 : Nat) "YoungerBack$League" "wayCount" "I") ∈ zts := zts_r 148 (by decide +kernel) (by decide +kernel)
theorem wd_149 : (Jvm.Cond.fieldLink "YoungerBack$Tape" (39 : Nat) "YoungerBack$League" "wayCount" "I") ∈ zts := zts_r 149 (by decide +kernel) (by decide +kernel)
theorem wd_150 : (Jvm.Cond.fieldLink "YoungerBack$Foretold" (29 : Nat) "YoungerBack$League" "wayCount" "I") ∈ zts := zts_r 150 (by decide +kernel) (by decide +kernel)
theorem wd_151 : (Jvm.Cond.fieldLink "YoungerBack" (264 : Nat) "YoungerBack$League" "wayCount" "I") ∈ zts := zts_r 151 (by decide +kernel) (by decide +kernel)
theorem wd_152 : (Jvm.Cond.fieldLink "YoungerBack$League" (21 : Nat) "YoungerBack$League" "peopleCount" "I") ∈ zts := zts_r 152 (by decide +kernel) (by decide +kernel)
theorem wd_153 : (Jvm.Cond.fieldLink "YoungerBack$Tape" (44 : Nat) "YoungerBack$League" "peopleCount" "I") ∈ zts := zts_r 153 (by decide +kernel) (by decide +kernel)
theorem wd_154 : (Jvm.Cond.fieldLink "YoungerBack" (138 : Nat) "YoungerBack$League" "peopleCount" "I") ∈ zts := zts_r 154 (by decide +kernel) (by decide +kernel)
theorem wd_155 : (Jvm.Cond.fieldLink "YoungerBack$League" (26 : Nat) "YoungerBack$League" "ways" "[LYoungerBack$Way;") ∈ zts := zts_r 155 (by decide +kernel) (by decide +kernel)
theorem wd_156 : (Jvm.Cond.fieldLink "YoungerBack$Tape" (89 : Nat) "YoungerBack$League" "ways" "[LYoungerBack$Way;") ∈ zts := zts_r 156 (by decide +kernel) (by decide +kernel)
theorem wd_157 : (Jvm.Cond.fieldLink "YoungerBack$Foretold" (34 : Nat) "YoungerBack$League" "ways" "[LYoungerBack$Way;") ∈ zts := zts_r 157 (by decide +kernel) (by decide +kernel)
theorem wd_158 : (Jvm.Cond.fieldLink "YoungerBack" (268 : Nat) "YoungerBack$League" "ways" "[LYoungerBack$Way;") ∈ zts := zts_r 158 (by decide +kernel) (by decide +kernel)
theorem wd_159 : (Jvm.Cond.fieldLink "YoungerBack$League" (32 : Nat) "YoungerBack$League" "people" "[LYoungerBack$Person;") ∈ zts := zts_r 159 (by decide +kernel) (by decide +kernel)
theorem wd_160 : (Jvm.Cond.fieldLink "YoungerBack$Acts" (29 : Nat) "YoungerBack$League" "people" "[LYoungerBack$Person;") ∈ zts := zts_r 160 (by decide +kernel) (by decide +kernel)
theorem wd_161 : (Jvm.Cond.fieldLink "YoungerBack$Tape" (111 : Nat) "YoungerBack$League" "people" "[LYoungerBack$Person;") ∈ zts := zts_r 161 (by decide +kernel) (by decide +kernel)
theorem wd_162 : (Jvm.Cond.fieldLink "YoungerBack" (150 : Nat) "YoungerBack$League" "people" "[LYoungerBack$Person;") ∈ zts := zts_r 162 (by decide +kernel) (by decide +kernel)
theorem wd_163 : (Jvm.Cond.lays "YoungerBack$League" "YoungerBack$League" "harbours" "I") ∈ zts := zts_r 163 (by decide +kernel) (by decide +kernel)
theorem wd_165 : (Jvm.Cond.lays "YoungerBack$League" "YoungerBack$League" "rate" "I") ∈ zts := zts_r 165 (by decide +kernel) (by decide +kernel)
theorem wd_167 : (Jvm.Cond.lays "YoungerBack$League" "YoungerBack$League" "wayCount" "I") ∈ zts := zts_r 167 (by decide +kernel) (by decide +kernel)
theorem wd_169 : (Jvm.Cond.lays "YoungerBack$League" "YoungerBack$League" "peopleCount" "I") ∈ zts := zts_r 169 (by decide +kernel) (by decide +kernel)
theorem wd_171 : (Jvm.Cond.laysFinal "YoungerBack$League" "YoungerBack$League" "ways" "[LYoungerBack$Way;") ∈ zts := zts_r 171 (by decide +kernel) (by decide +kernel)
theorem wd_173 : (Jvm.Cond.laysFinal "YoungerBack$League" "YoungerBack$League" "people" "[LYoungerBack$Person;") ∈ zts := zts_r 173 (by decide +kernel) (by decide +kernel)
theorem wd_177 : (Jvm.Cond.classLink "YoungerBack" (57 : Nat) "YoungerBack$Acts") ∈ zts := zts_r 177 (by decide +kernel) (by decide +kernel)
theorem wd_178 : (Jvm.Cond.instantiable "YoungerBack$Acts" (3 : Nat)) ∈ zts := zts_r 178 (by decide +kernel) (by decide +kernel)
theorem wd_179 : (Jvm.Cond.methodLink "YoungerBack" (59 : Nat) ({ cls := "YoungerBack$Acts", name := "<init>", desc := "()V" } : Jvm.MethodName)) ∈ zts := zts_r 179 (by decide +kernel) (by decide +kernel)
theorem wd_180 : (Jvm.Cond.instanceMethod ({ cls := "YoungerBack$Acts", name := "<init>", desc := "()V" } : Jvm.MethodName)) ∈ zts := zts_r 180 (by decide +kernel) (by decide +kernel)
theorem wd_181 : (Jvm.Cond.code ({ cls := "YoungerBack$Acts", name := "<init>", desc := "()V" } : Jvm.MethodName) prog_2_method_1_code (2 : Nat) (Option.none : Option Jvm.ClassFile.FieldType)) ∈ zts := zts_r 181 (by decide +kernel) (by decide +kernel)
theorem wd_182 : (Jvm.Cond.methodLink "YoungerBack$Acts" (3 : Nat) ({ cls := "java/lang/Object", name := "<init>", desc := "()V" } : Jvm.MethodName)) ∈ zts := zts_r 182 (by decide +kernel) (by decide +kernel)
theorem wd_183 : (Jvm.Cond.classLink "YoungerBack$Acts" (9 : Nat) "YoungerBack$Person") ∈ zts := zts_r 183 (by decide +kernel) (by decide +kernel)
theorem wd_185 : (Jvm.Cond.fieldLink "YoungerBack$Acts" (11 : Nat) "YoungerBack$Acts" "kept" "[LYoungerBack$Person;") ∈ zts := zts_r 185 (by decide +kernel) (by decide +kernel)
theorem wd_186 : (Jvm.Cond.fieldLink "YoungerBack$Acts" (17 : Nat) "YoungerBack$Acts" "oldest" "I") ∈ zts := zts_r 186 (by decide +kernel) (by decide +kernel)
theorem wd_187 : (Jvm.Cond.fieldLink "YoungerBack$Acts" (21 : Nat) "YoungerBack$Acts" "many" "I") ∈ zts := zts_r 187 (by decide +kernel) (by decide +kernel)
theorem wd_188 : (Jvm.Cond.fieldLink "YoungerBack" (187 : Nat) "YoungerBack$Acts" "many" "I") ∈ zts := zts_r 188 (by decide +kernel) (by decide +kernel)
theorem wd_189 : (Jvm.Cond.laysFinal "YoungerBack$Acts" "YoungerBack$Acts" "kept" "[LYoungerBack$Person;") ∈ zts := zts_r 189 (by decide +kernel) (by decide +kernel)
theorem wd_191 : (Jvm.Cond.lays "YoungerBack$Acts" "YoungerBack$Acts" "oldest" "I") ∈ zts := zts_r 191 (by decide +kernel) (by decide +kernel)
theorem wd_193 : (Jvm.Cond.lays "YoungerBack$Acts" "YoungerBack$Acts" "many" "I") ∈ zts := zts_r 193 (by decide +kernel) (by decide +kernel)
theorem wd_196 : (Jvm.Cond.arrayClass Jvm.ClassFile.FieldType.boolean) ∈ zts := zts_r 196 (by decide +kernel) (by decide +kernel)
theorem wd_197 : (Jvm.Cond.classLink "YoungerBack" (64 : Nat) "YoungerBack$Foretold") ∈ zts := zts_r 197 (by decide +kernel) (by decide +kernel)
theorem wd_198 : (Jvm.Cond.instantiable "YoungerBack$Foretold" (1 : Nat)) ∈ zts := zts_r 198 (by decide +kernel) (by decide +kernel)
theorem wd_200 : (Jvm.Cond.instanceMethod ({ cls := "YoungerBack$Foretold", name := "<init>", desc := "()V" } : Jvm.MethodName)) ∈ zts := zts_r 200 (by decide +kernel) (by decide +kernel)
theorem wd_201 : (Jvm.Cond.code ({ cls := "YoungerBack$Foretold", name := "<init>", desc := "()V" } : Jvm.MethodName) prog_4_method_1_code (1 : Nat) (Option.none : Option Jvm.ClassFile.FieldType)) ∈ zts := zts_r 201 (by decide +kernel) (by decide +kernel)
theorem wd_202 : (Jvm.Cond.methodLink "YoungerBack$Foretold" (3 : Nat) ({ cls := "java/lang/Object", name := "<init>", desc := "()V" } : Jvm.MethodName)) ∈ zts := zts_r 202 (by decide +kernel) (by decide +kernel)
theorem wd_203 : (Jvm.Cond.fieldLink "YoungerBack$Foretold" (9 : Nat) "YoungerBack$Foretold" "gains" "[J") ∈ zts := zts_r 203 (by decide +kernel) (by decide +kernel)
theorem wd_204 : (Jvm.Cond.laysFinal "YoungerBack$Foretold" "YoungerBack$Foretold" "gains" "[J") ∈ zts := zts_r 204 (by decide +kernel) (by decide +kernel)
theorem wd_207 : (Jvm.Cond.arrayClass Jvm.ClassFile.FieldType.long) ∈ zts := zts_r 207 (by decide +kernel) (by decide +kernel)
theorem wd_208 : (Jvm.Cond.classLink "YoungerBack" (74 : Nat) "YoungerBack$Asking") ∈ zts := zts_r 208 (by decide +kernel) (by decide +kernel)
theorem wd_209 : (Jvm.Cond.instantiable "YoungerBack$Asking" (2 : Nat)) ∈ zts := zts_r 209 (by decide +kernel) (by decide +kernel)
theorem wd_211 : (Jvm.Cond.instanceMethod ({ cls := "YoungerBack$Asking", name := "<init>", desc := "()V" } : Jvm.MethodName)) ∈ zts := zts_r 211 (by decide +kernel) (by decide +kernel)
theorem wd_212 : (Jvm.Cond.code ({ cls := "YoungerBack$Asking", name := "<init>", desc := "()V" } : Jvm.MethodName) prog_3_method_1_code (1 : Nat) (Option.none : Option Jvm.ClassFile.FieldType)) ∈ zts := zts_r 212 (by decide +kernel) (by decide +kernel)
theorem wd_213 : (Jvm.Cond.methodLink "YoungerBack$Asking" (3 : Nat) ({ cls := "java/lang/Object", name := "<init>", desc := "()V" } : Jvm.MethodName)) ∈ zts := zts_r 213 (by decide +kernel) (by decide +kernel)
theorem wd_214 : (Jvm.Cond.fieldLink "YoungerBack$Asking" (9 : Nat) "YoungerBack$Asking" "bodies" "[I") ∈ zts := zts_r 214 (by decide +kernel) (by decide +kernel)
theorem wd_215 : (Jvm.Cond.fieldLink "YoungerBack" (258 : Nat) "YoungerBack$Asking" "bodies" "[I") ∈ zts := zts_r 215 (by decide +kernel) (by decide +kernel)
theorem wd_216 : (Jvm.Cond.fieldLink "YoungerBack$Asking" (15 : Nat) "YoungerBack$Asking" "begun" "I") ∈ zts := zts_r 216 (by decide +kernel) (by decide +kernel)
theorem wd_217 : (Jvm.Cond.fieldLink "YoungerBack" (249 : Nat) "YoungerBack$Asking" "begun" "I") ∈ zts := zts_r 217 (by decide +kernel) (by decide +kernel)
theorem wd_218 : (Jvm.Cond.laysFinal "YoungerBack$Asking" "YoungerBack$Asking" "bodies" "[I") ∈ zts := zts_r 218 (by decide +kernel) (by decide +kernel)
theorem wd_220 : (Jvm.Cond.lays "YoungerBack$Asking" "YoungerBack$Asking" "begun" "I") ∈ zts := zts_r 220 (by decide +kernel) (by decide +kernel)
theorem wd_223 : (Jvm.Cond.fieldLink "YoungerBack" (11 : Nat) "YoungerBack" "items" "[[I") ∈ zts := zts_r 223 (by decide +kernel) (by decide +kernel)
theorem wd_224 : (Jvm.Cond.fieldLink "YoungerBack" (14 : Nat) "YoungerBack" "lanes" "[I") ∈ zts := zts_r 224 (by decide +kernel) (by decide +kernel)
theorem wd_225 : (Jvm.Cond.fieldLink "YoungerBack" (18 : Nat) "YoungerBack" "sizes" "[I") ∈ zts := zts_r 225 (by decide +kernel) (by decide +kernel)
theorem wd_226 : (Jvm.Cond.fieldLink "YoungerBack" (21 : Nat) "YoungerBack" "finding" "I") ∈ zts := zts_r 226 (by decide +kernel) (by decide +kernel)
theorem wd_227 : (Jvm.Cond.fieldLink "YoungerBack" (28 : Nat) "YoungerBack" "tape" "LYoungerBack$Tape;") ∈ zts := zts_r 227 (by decide +kernel) (by decide +kernel)
theorem wd_228 : (Jvm.Cond.fieldLink "YoungerBack" (32 : Nat) "YoungerBack" "latestFault" "I") ∈ zts := zts_r 228 (by decide +kernel) (by decide +kernel)
theorem wd_229 : (Jvm.Cond.fieldLink "YoungerBack" (35 : Nat) "YoungerBack" "isRead" "Z") ∈ zts := zts_r 229 (by decide +kernel) (by decide +kernel)
theorem wd_230 : (Jvm.Cond.fieldLink "YoungerBack" (42 : Nat) "YoungerBack" "current" "LYoungerBack$League;") ∈ zts := zts_r 230 (by decide +kernel) (by decide +kernel)
theorem wd_231 : (Jvm.Cond.fieldLink "YoungerBack" (46 : Nat) "YoungerBack" "draft" "LYoungerBack$League;") ∈ zts := zts_r 231 (by decide +kernel) (by decide +kernel)
theorem wd_232 : (Jvm.Cond.fieldLink "YoungerBack" (49 : Nat) "YoungerBack" "images" "[LYoungerBack$League;") ∈ zts := zts_r 232 (by decide +kernel) (by decide +kernel)
theorem wd_233 : (Jvm.Cond.fieldLink "YoungerBack" (53 : Nat) "YoungerBack" "isKept" "[Z") ∈ zts := zts_r 233 (by decide +kernel) (by decide +kernel)
theorem wd_234 : (Jvm.Cond.fieldLink "YoungerBack" (60 : Nat) "YoungerBack" "acts" "LYoungerBack$Acts;") ∈ zts := zts_r 234 (by decide +kernel) (by decide +kernel)
theorem wd_235 : (Jvm.Cond.fieldLink "YoungerBack" (67 : Nat) "YoungerBack" "first" "LYoungerBack$Foretold;") ∈ zts := zts_r 235 (by decide +kernel) (by decide +kernel)
theorem wd_236 : (Jvm.Cond.fieldLink "YoungerBack" (71 : Nat) "YoungerBack" "second" "LYoungerBack$Foretold;") ∈ zts := zts_r 236 (by decide +kernel) (by decide +kernel)
theorem wd_237 : (Jvm.Cond.fieldLink "YoungerBack" (77 : Nat) "YoungerBack" "asking" "LYoungerBack$Asking;") ∈ zts := zts_r 237 (by decide +kernel) (by decide +kernel)
theorem wd_238 : (Jvm.Cond.laysFinal "YoungerBack" "YoungerBack" "items" "[[I") ∈ zts := zts_r 238 (by decide +kernel) (by decide +kernel)
theorem wd_240 : (Jvm.Cond.laysFinal "YoungerBack" "YoungerBack" "lanes" "[I") ∈ zts := zts_r 240 (by decide +kernel) (by decide +kernel)
theorem wd_242 : (Jvm.Cond.laysFinal "YoungerBack" "YoungerBack" "sizes" "[I") ∈ zts := zts_r 242 (by decide +kernel) (by decide +kernel)
theorem wd_244 : (Jvm.Cond.lays "YoungerBack" "YoungerBack" "finding" "I") ∈ zts := zts_r 244 (by decide +kernel) (by decide +kernel)
theorem wd_246 : (Jvm.Cond.laysFinal "YoungerBack" "YoungerBack" "tape" "LYoungerBack$Tape;") ∈ zts := zts_r 246 (by decide +kernel) (by decide +kernel)
theorem wd_248 : (Jvm.Cond.lays "YoungerBack" "YoungerBack" "latestFault" "I") ∈ zts := zts_r 248 (by decide +kernel) (by decide +kernel)
theorem wd_250 : (Jvm.Cond.lays "YoungerBack" "YoungerBack" "isRead" "Z") ∈ zts := zts_r 250 (by decide +kernel) (by decide +kernel)
theorem wd_252 : (Jvm.Cond.laysFinal "YoungerBack" "YoungerBack" "current" "LYoungerBack$League;") ∈ zts := zts_r 252 (by decide +kernel) (by decide +kernel)
theorem wd_254 : (Jvm.Cond.laysFinal "YoungerBack" "YoungerBack" "draft" "LYoungerBack$League;") ∈ zts := zts_r 254 (by decide +kernel) (by decide +kernel)
theorem wd_256 : (Jvm.Cond.laysFinal "YoungerBack" "YoungerBack" "images" "[LYoungerBack$League;") ∈ zts := zts_r 256 (by decide +kernel) (by decide +kernel)
theorem wd_258 : (Jvm.Cond.laysFinal "YoungerBack" "YoungerBack" "isKept" "[Z") ∈ zts := zts_r 258 (by decide +kernel) (by decide +kernel)
theorem wd_260 : (Jvm.Cond.laysFinal "YoungerBack" "YoungerBack" "acts" "LYoungerBack$Acts;") ∈ zts := zts_r 260 (by decide +kernel) (by decide +kernel)
theorem wd_262 : (Jvm.Cond.laysFinal "YoungerBack" "YoungerBack" "first" "LYoungerBack$Foretold;") ∈ zts := zts_r 262 (by decide +kernel) (by decide +kernel)
theorem wd_264 : (Jvm.Cond.laysFinal "YoungerBack" "YoungerBack" "second" "LYoungerBack$Foretold;") ∈ zts := zts_r 264 (by decide +kernel) (by decide +kernel)
theorem wd_266 : (Jvm.Cond.laysFinal "YoungerBack" "YoungerBack" "asking" "LYoungerBack$Asking;") ∈ zts := zts_r 266 (by decide +kernel) (by decide +kernel)
theorem wd_269 : (Jvm.Cond.methodLink "YoungerBackLaw" (13 : Nat) ({ cls := "YoungerBack", name := "row", desc := "(III)I" } : Jvm.MethodName)) ∈ zts := zts_r 269 (by decide +kernel) (by decide +kernel)
theorem wd_270 : (Jvm.Cond.instanceMethod ({ cls := "YoungerBack", name := "row", desc := "(III)I" } : Jvm.MethodName)) ∈ zts := zts_r 270 (by decide +kernel) (by decide +kernel)
theorem wd_271 : (Jvm.Cond.selects "YoungerBack" ({ cls := "YoungerBack", name := "row", desc := "(III)I" } : Jvm.MethodName) ({ cls := "YoungerBack", name := "row", desc := "(III)I" } : Jvm.MethodName)) ∈ zts := zts_r 271 (by decide +kernel) (by decide +kernel)
theorem wd_272 : (Jvm.Cond.code ({ cls := "YoungerBack", name := "row", desc := "(III)I" } : Jvm.MethodName) prog_1_method_2_code (5 : Nat) (Option.some Jvm.ClassFile.FieldType.int)) ∈ zts := zts_r 272 (by decide +kernel) (by decide +kernel)
theorem wd_273 : (Jvm.Cond.methodLink "YoungerBack" (81 : Nat) ({ cls := "YoungerBack", name := "isNoRow", desc := "(I)Z" } : Jvm.MethodName)) ∈ zts := zts_r 273 (by decide +kernel) (by decide +kernel)
theorem wd_274 : (Jvm.Cond.static ({ cls := "YoungerBack", name := "isNoRow", desc := "(I)Z" } : Jvm.MethodName)) ∈ zts := zts_r 274 (by decide +kernel) (by decide +kernel)
theorem wd_275 : (Jvm.Cond.code ({ cls := "YoungerBack", name := "isNoRow", desc := "(I)Z" } : Jvm.MethodName) prog_1_method_34_code (1 : Nat) (Option.some Jvm.ClassFile.FieldType.boolean)) ∈ zts := zts_r 275 (by decide +kernel) (by decide +kernel)
theorem wd_276 : (Jvm.Cond.methodLink "YoungerBack" (85 : Nat) ({ cls := "YoungerBack", name := "isOutside", desc := "(III)Z" } : Jvm.MethodName)) ∈ zts := zts_r 276 (by decide +kernel) (by decide +kernel)
theorem wd_277 : (Jvm.Cond.static ({ cls := "YoungerBack", name := "isOutside", desc := "(III)Z" } : Jvm.MethodName)) ∈ zts := zts_r 277 (by decide +kernel) (by decide +kernel)
theorem wd_278 : (Jvm.Cond.code ({ cls := "YoungerBack", name := "isOutside", desc := "(III)Z" } : Jvm.MethodName) prog_1_method_33_code (3 : Nat) (Option.some Jvm.ClassFile.FieldType.boolean)) ∈ zts := zts_r 278 (by decide +kernel) (by decide +kernel)
theorem wd_279 : (Jvm.Cond.constant "YoungerBack" (89 : Nat) (-1000001 : Int32)) ∈ zts := zts_r 279 (by decide +kernel) (by decide +kernel)
theorem wd_280 : (Jvm.Cond.methodLink "YoungerBack" (90 : Nat) ({ cls := "YoungerBack", name := "found", desc := "(I)I" } : Jvm.MethodName)) ∈ zts := zts_r 280 (by decide +kernel) (by decide +kernel)
theorem wd_282 : (Jvm.Cond.instanceMethod ({ cls := "YoungerBack", name := "found", desc := "(I)I" } : Jvm.MethodName)) ∈ zts := zts_r 282 (by decide +kernel) (by decide +kernel)
theorem wd_283 : (Jvm.Cond.code ({ cls := "YoungerBack", name := "found", desc := "(I)I" } : Jvm.MethodName) prog_1_method_31_code (2 : Nat) (Option.some Jvm.ClassFile.FieldType.int)) ∈ zts := zts_r 283 (by decide +kernel) (by decide +kernel)
theorem wd_284 : (Jvm.Cond.constant "YoungerBack" (267 : Nat) (-1000010 : Int32)) ∈ zts := zts_r 284 (by decide +kernel) (by decide +kernel)
theorem wd_285 : (Jvm.Cond.methodLink "YoungerBack" (94 : Nat) ({ cls := "YoungerBack", name := "foundNothing", desc := "(I)I" } : Jvm.MethodName)) ∈ zts := zts_r 285 (by decide +kernel) (by decide +kernel)
theorem wd_287 : (Jvm.Cond.instanceMethod ({ cls := "YoungerBack", name := "foundNothing", desc := "(I)I" } : Jvm.MethodName)) ∈ zts := zts_r 287 (by decide +kernel) (by decide +kernel)
theorem wd_288 : (Jvm.Cond.code ({ cls := "YoungerBack", name := "foundNothing", desc := "(I)I" } : Jvm.MethodName) prog_1_method_32_code (2 : Nat) (Option.some Jvm.ClassFile.FieldType.int)) ∈ zts := zts_r 288 (by decide +kernel) (by decide +kernel)
theorem wd_289 : (Jvm.Cond.methodLink "YoungerBackLaw" (18 : Nat) ({ cls := "YoungerBack", name := "set", desc := "(III)I" } : Jvm.MethodName)) ∈ zts := zts_r 289 (by decide +kernel) (by decide +kernel)
theorem wd_290 : (Jvm.Cond.instanceMethod ({ cls := "YoungerBack", name := "set", desc := "(III)I" } : Jvm.MethodName)) ∈ zts := zts_r 290 (by decide +kernel) (by decide +kernel)
theorem wd_291 : (Jvm.Cond.selects "YoungerBack" ({ cls := "YoungerBack", name := "set", desc := "(III)I" } : Jvm.MethodName) ({ cls := "YoungerBack", name := "set", desc := "(III)I" } : Jvm.MethodName)) ∈ zts := zts_r 291 (by decide +kernel) (by decide +kernel)
theorem wd_292 : (Jvm.Cond.code ({ cls := "YoungerBack", name := "set", desc := "(III)I" } : Jvm.MethodName) prog_1_method_3_code (4 : Nat) (Option.some Jvm.ClassFile.FieldType.int)) ∈ zts := zts_r 292 (by decide +kernel) (by decide +kernel)
theorem wd_293 : (Jvm.Cond.methodLink "YoungerBack" (97 : Nat) ({ cls := "YoungerBack", name := "isMissing", desc := "(I)Z" } : Jvm.MethodName)) ∈ zts := zts_r 293 (by decide +kernel) (by decide +kernel)
theorem wd_295 : (Jvm.Cond.instanceMethod ({ cls := "YoungerBack", name := "isMissing", desc := "(I)Z" } : Jvm.MethodName)) ∈ zts := zts_r 295 (by decide +kernel) (by decide +kernel)
theorem wd_296 : (Jvm.Cond.code ({ cls := "YoungerBack", name := "isMissing", desc := "(I)Z" } : Jvm.MethodName) prog_1_method_35_code (2 : Nat) (Option.some Jvm.ClassFile.FieldType.boolean)) ∈ zts := zts_r 296 (by decide +kernel) (by decide +kernel)
theorem wd_297 : (Jvm.Cond.methodLink "YoungerBack" (100 : Nat) ({ cls := "YoungerBack", name := "isBeyond", desc := "(III)Z" } : Jvm.MethodName)) ∈ zts := zts_r 297 (by decide +kernel) (by decide +kernel)
theorem wd_299 : (Jvm.Cond.instanceMethod ({ cls := "YoungerBack", name := "isBeyond", desc := "(III)Z" } : Jvm.MethodName)) ∈ zts := zts_r 299 (by decide +kernel) (by decide +kernel)
theorem wd_300 : (Jvm.Cond.code ({ cls := "YoungerBack", name := "isBeyond", desc := "(III)Z" } : Jvm.MethodName) prog_1_method_36_code (4 : Nat) (Option.some Jvm.ClassFile.FieldType.boolean)) ∈ zts := zts_r 300 (by decide +kernel) (by decide +kernel)
theorem wd_301 : (Jvm.Cond.methodLink "YoungerBack" (103 : Nat) ({ cls := "YoungerBack", name := "lowestBits", desc := "(II)I" } : Jvm.MethodName)) ∈ zts := zts_r 301 (by decide +kernel) (by decide +kernel)
theorem wd_302 : (Jvm.Cond.static ({ cls := "YoungerBack", name := "lowestBits", desc := "(II)I" } : Jvm.MethodName)) ∈ zts := zts_r 302 (by decide +kernel) (by decide +kernel)
theorem wd_303 : (Jvm.Cond.code ({ cls := "YoungerBack", name := "lowestBits", desc := "(II)I" } : Jvm.MethodName) prog_1_method_37_code (2 : Nat) (Option.some Jvm.ClassFile.FieldType.int)) ∈ zts := zts_r 303 (by decide +kernel) (by decide +kernel)
theorem wd_304 : (Jvm.Cond.methodLink "YoungerBackLaw" (22 : Nat) ({ cls := "YoungerBack", name := "copy", desc := "(IIIII)I" } : Jvm.MethodName)) ∈ zts := zts_r 304 (by decide +kernel) (by decide +kernel)
theorem wd_305 : (Jvm.Cond.instanceMethod ({ cls := "YoungerBack", name := "copy", desc := "(IIIII)I" } : Jvm.MethodName)) ∈ zts := zts_r 305 (by decide +kernel) (by decide +kernel)
theorem wd_306 : (Jvm.Cond.selects "YoungerBack" ({ cls := "YoungerBack", name := "copy", desc := "(IIIII)I" } : Jvm.MethodName) ({ cls := "YoungerBack", name := "copy", desc := "(IIIII)I" } : Jvm.MethodName)) ∈ zts := zts_r 306 (by decide +kernel) (by decide +kernel)
theorem wd_307 : (Jvm.Cond.code ({ cls := "YoungerBack", name := "copy", desc := "(IIIII)I" } : Jvm.MethodName) prog_1_method_4_code (6 : Nat) (Option.some Jvm.ClassFile.FieldType.int)) ∈ zts := zts_r 307 (by decide +kernel) (by decide +kernel)
theorem wd_308 : (Jvm.Cond.methodLink "YoungerBack" (107 : Nat) ({ cls := "java/lang/System", name := "arraycopy", desc := "(Ljava/lang/Object;ILjava/lang/Object;II)V" } : Jvm.MethodName)) ∈ zts := zts_r 308 (by decide +kernel) (by decide +kernel)
theorem wd_309 : (Jvm.Cond.static ({ cls := "java/lang/System", name := "arraycopy", desc := "(Ljava/lang/Object;ILjava/lang/Object;II)V" } : Jvm.MethodName)) ∈ zts := zts_r 309 (by decide +kernel) (by decide +kernel)
theorem wd_310 : (Jvm.Cond.native ({ cls := "java/lang/System", name := "arraycopy", desc := "(Ljava/lang/Object;ILjava/lang/Object;II)V" } : Jvm.MethodName)) ∈ zts := zts_r 310 (by decide +kernel) (by decide +kernel)
theorem wd_311 : (Jvm.Cond.methodLink "YoungerBackLaw" (27 : Nat) ({ cls := "YoungerBack", name := "drop", desc := "(I)I" } : Jvm.MethodName)) ∈ zts := zts_r 311 (by decide +kernel) (by decide +kernel)
theorem wd_312 : (Jvm.Cond.instanceMethod ({ cls := "YoungerBack", name := "drop", desc := "(I)I" } : Jvm.MethodName)) ∈ zts := zts_r 312 (by decide +kernel) (by decide +kernel)
theorem wd_313 : (Jvm.Cond.selects "YoungerBack" ({ cls := "YoungerBack", name := "drop", desc := "(I)I" } : Jvm.MethodName) ({ cls := "YoungerBack", name := "drop", desc := "(I)I" } : Jvm.MethodName)) ∈ zts := zts_r 313 (by decide +kernel) (by decide +kernel)
theorem wd_314 : (Jvm.Cond.code ({ cls := "YoungerBack", name := "drop", desc := "(I)I" } : Jvm.MethodName) prog_1_method_5_code (3 : Nat) (Option.some Jvm.ClassFile.FieldType.int)) ∈ zts := zts_r 314 (by decide +kernel) (by decide +kernel)
theorem wd_315 : (Jvm.Cond.methodLink "YoungerBackLaw" (34 : Nat) ({ cls := "YoungerBack", name := "feed", desc := "(JI)I" } : Jvm.MethodName)) ∈ zts := zts_r 315 (by decide +kernel) (by decide +kernel)
theorem wd_316 : (Jvm.Cond.instanceMethod ({ cls := "YoungerBack", name := "feed", desc := "(JI)I" } : Jvm.MethodName)) ∈ zts := zts_r 316 (by decide +kernel) (by decide +kernel)
theorem wd_317 : (Jvm.Cond.selects "YoungerBack" ({ cls := "YoungerBack", name := "feed", desc := "(JI)I" } : Jvm.MethodName) ({ cls := "YoungerBack", name := "feed", desc := "(JI)I" } : Jvm.MethodName)) ∈ zts := zts_r 317 (by decide +kernel) (by decide +kernel)
theorem wd_318 : (Jvm.Cond.code ({ cls := "YoungerBack", name := "feed", desc := "(JI)I" } : Jvm.MethodName) prog_1_method_6_code (4 : Nat) (Option.some Jvm.ClassFile.FieldType.int)) ∈ zts := zts_r 318 (by decide +kernel) (by decide +kernel)
theorem wd_319 : (Jvm.Cond.constant "YoungerBack" (116 : Nat) (-1000003 : Int32)) ∈ zts := zts_r 319 (by decide +kernel) (by decide +kernel)
theorem wd_320 : (Jvm.Cond.methodLink "YoungerBack" (117 : Nat) ({ cls := "YoungerBack$Tape", name := "append", desc := "(JI)V" } : Jvm.MethodName)) ∈ zts := zts_r 320 (by decide +kernel) (by decide +kernel)
theorem wd_321 : (Jvm.Cond.instanceMethod ({ cls := "YoungerBack$Tape", name := "append", desc := "(JI)V" } : Jvm.MethodName)) ∈ zts := zts_r 321 (by decide +kernel) (by decide +kernel)
theorem wd_322 : (Jvm.Cond.selects "YoungerBack$Tape" ({ cls := "YoungerBack$Tape", name := "append", desc := "(JI)V" } : Jvm.MethodName) ({ cls := "YoungerBack$Tape", name := "append", desc := "(JI)V" } : Jvm.MethodName)) ∈ zts := zts_r 322 (by decide +kernel) (by decide +kernel)
theorem wd_323 : (Jvm.Cond.code ({ cls := "YoungerBack$Tape", name := "append", desc := "(JI)V" } : Jvm.MethodName) prog_7_method_2_code (5 : Nat) (Option.none : Option Jvm.ClassFile.FieldType)) ∈ zts := zts_r 323 (by decide +kernel) (by decide +kernel)
theorem wd_324 : (Jvm.Cond.constantLong "YoungerBack$Tape" (37 : Nat) (255 : Int64)) ∈ zts := zts_r 324 (by decide +kernel) (by decide +kernel)
theorem wd_325 : (Jvm.Cond.methodLink "YoungerBackLaw" (39 : Nat) ({ cls := "YoungerBack", name := "league", desc := "()I" } : Jvm.MethodName)) ∈ zts := zts_r 325 (by decide +kernel) (by decide +kernel)
theorem wd_326 : (Jvm.Cond.instanceMethod ({ cls := "YoungerBack", name := "league", desc := "()I" } : Jvm.MethodName)) ∈ zts := zts_r 326 (by decide +kernel) (by decide +kernel)
theorem wd_327 : (Jvm.Cond.selects "YoungerBack" ({ cls := "YoungerBack", name := "league", desc := "()I" } : Jvm.MethodName) ({ cls := "YoungerBack", name := "league", desc := "()I" } : Jvm.MethodName)) ∈ zts := zts_r 327 (by decide +kernel) (by decide +kernel)
theorem wd_328 : (Jvm.Cond.code ({ cls := "YoungerBack", name := "league", desc := "()I" } : Jvm.MethodName) prog_1_method_7_code (1 : Nat) (Option.some Jvm.ClassFile.FieldType.int)) ∈ zts := zts_r 328 (by decide +kernel) (by decide +kernel)
theorem wd_329 : (Jvm.Cond.methodLink "YoungerBack" (121 : Nat) ({ cls := "YoungerBack$Tape", name := "readLeague", desc := "(LYoungerBack$League;)V" } : Jvm.MethodName)) ∈ zts := zts_r 329 (by decide +kernel) (by decide +kernel)
theorem wd_330 : (Jvm.Cond.instanceMethod ({ cls := "YoungerBack$Tape", name := "readLeague", desc := "(LYoungerBack$League;)V" } : Jvm.MethodName)) ∈ zts := zts_r 330 (by decide +kernel) (by decide +kernel)
theorem wd_331 : (Jvm.Cond.selects "YoungerBack$Tape" ({ cls := "YoungerBack$Tape", name := "readLeague", desc := "(LYoungerBack$League;)V" } : Jvm.MethodName) ({ cls := "YoungerBack$Tape", name := "readLeague", desc := "(LYoungerBack$League;)V" } : Jvm.MethodName)) ∈ zts := zts_r 331 (by decide +kernel) (by decide +kernel)
theorem wd_332 : (Jvm.Cond.code ({ cls := "YoungerBack$Tape", name := "readLeague", desc := "(LYoungerBack$League;)V" } : Jvm.MethodName) prog_7_method_3_code (3 : Nat) (Option.none : Option Jvm.ClassFile.FieldType)) ∈ zts := zts_r 332 (by decide +kernel) (by decide +kernel)
theorem wd_333 : (Jvm.Cond.methodLink "YoungerBack$Tape" (47 : Nat) ({ cls := "YoungerBack$Tape", name := "nextToken", desc := "()V" } : Jvm.MethodName)) ∈ zts := zts_r 333 (by decide +kernel) (by decide +kernel)
theorem wd_335 : (Jvm.Cond.instanceMethod ({ cls := "YoungerBack$Tape", name := "nextToken", desc := "()V" } : Jvm.MethodName)) ∈ zts := zts_r 335 (by decide +kernel) (by decide +kernel)
theorem wd_336 : (Jvm.Cond.code ({ cls := "YoungerBack$Tape", name := "nextToken", desc := "()V" } : Jvm.MethodName) prog_7_method_13_code (1 : Nat) (Option.none : Option Jvm.ClassFile.FieldType)) ∈ zts := zts_r 336 (by decide +kernel) (by decide +kernel)
theorem wd_337 : (Jvm.Cond.methodLink "YoungerBack$Tape" (148 : Nat) ({ cls := "YoungerBack$Tape", name := "isBetween", desc := "(II)Z" } : Jvm.MethodName)) ∈ zts := zts_r 337 (by decide +kernel) (by decide +kernel)
theorem wd_339 : (Jvm.Cond.instanceMethod ({ cls := "YoungerBack$Tape", name := "isBetween", desc := "(II)Z" } : Jvm.MethodName)) ∈ zts := zts_r 339 (by decide +kernel) (by decide +kernel)
theorem wd_340 : (Jvm.Cond.code ({ cls := "YoungerBack$Tape", name := "isBetween", desc := "(II)Z" } : Jvm.MethodName) prog_7_method_14_code (3 : Nat) (Option.some Jvm.ClassFile.FieldType.boolean)) ∈ zts := zts_r 340 (by decide +kernel) (by decide +kernel)
theorem wd_341 : (Jvm.Cond.methodLink "YoungerBack$Tape" (152 : Nat) ({ cls := "YoungerBack$Tape", name := "passRun", desc := "(II)V" } : Jvm.MethodName)) ∈ zts := zts_r 341 (by decide +kernel) (by decide +kernel)
theorem wd_343 : (Jvm.Cond.instanceMethod ({ cls := "YoungerBack$Tape", name := "passRun", desc := "(II)V" } : Jvm.MethodName)) ∈ zts := zts_r 343 (by decide +kernel) (by decide +kernel)
theorem wd_344 : (Jvm.Cond.code ({ cls := "YoungerBack$Tape", name := "passRun", desc := "(II)V" } : Jvm.MethodName) prog_7_method_15_code (3 : Nat) (Option.none : Option Jvm.ClassFile.FieldType)) ∈ zts := zts_r 344 (by decide +kernel) (by decide +kernel)
theorem wd_345 : (Jvm.Cond.methodLink "YoungerBack$Tape" (156 : Nat) ({ cls := "YoungerBack$Tape", name := "readNumber", desc := "()V" } : Jvm.MethodName)) ∈ zts := zts_r 345 (by decide +kernel) (by decide +kernel)
theorem wd_347 : (Jvm.Cond.instanceMethod ({ cls := "YoungerBack$Tape", name := "readNumber", desc := "()V" } : Jvm.MethodName)) ∈ zts := zts_r 347 (by decide +kernel) (by decide +kernel)
theorem wd_348 : (Jvm.Cond.code ({ cls := "YoungerBack$Tape", name := "readNumber", desc := "()V" } : Jvm.MethodName) prog_7_method_16_code (2 : Nat) (Option.none : Option Jvm.ClassFile.FieldType)) ∈ zts := zts_r 348 (by decide +kernel) (by decide +kernel)
theorem wd_350 : (Jvm.Cond.methodLink "YoungerBack$Tape" (52 : Nat) ({ cls := "YoungerBack$Tape", name := "takeWord", desc := "(Ljava/lang/String;)V" } : Jvm.MethodName)) ∈ zts := zts_r 350 (by decide +kernel) (by decide +kernel)
theorem wd_352 : (Jvm.Cond.instanceMethod ({ cls := "YoungerBack$Tape", name := "takeWord", desc := "(Ljava/lang/String;)V" } : Jvm.MethodName)) ∈ zts := zts_r 352 (by decide +kernel) (by decide +kernel)
theorem wd_353 : (Jvm.Cond.code ({ cls := "YoungerBack$Tape", name := "takeWord", desc := "(Ljava/lang/String;)V" } : Jvm.MethodName) prog_7_method_7_code (2 : Nat) (Option.none : Option Jvm.ClassFile.FieldType)) ∈ zts := zts_r 353 (by decide +kernel) (by decide +kernel)
theorem wd_354 : (Jvm.Cond.methodLink "YoungerBack$Tape" (72 : Nat) ({ cls := "YoungerBack$Tape", name := "isWord", desc := "(Ljava/lang/String;)Z" } : Jvm.MethodName)) ∈ zts := zts_r 354 (by decide +kernel) (by decide +kernel)
theorem wd_356 : (Jvm.Cond.instanceMethod ({ cls := "YoungerBack$Tape", name := "isWord", desc := "(Ljava/lang/String;)Z" } : Jvm.MethodName)) ∈ zts := zts_r 356 (by decide +kernel) (by decide +kernel)
theorem wd_357 : (Jvm.Cond.code ({ cls := "YoungerBack$Tape", name := "isWord", desc := "(Ljava/lang/String;)Z" } : Jvm.MethodName) prog_7_method_12_code (3 : Nat) (Option.some Jvm.ClassFile.FieldType.boolean)) ∈ zts := zts_r 357 (by decide +kernel) (by decide +kernel)
theorem wd_358 : (Jvm.Cond.methodLink "YoungerBack$Tape" (139 : Nat) ({ cls := "java/lang/String", name := "length", desc := "()I" } : Jvm.MethodName)) ∈ zts := zts_r 358 (by decide +kernel) (by decide +kernel)
theorem wd_359 : (Jvm.Cond.instanceMethod ({ cls := "java/lang/String", name := "length", desc := "()I" } : Jvm.MethodName)) ∈ zts := zts_r 359 (by decide +kernel) (by decide +kernel)
theorem wd_360 : (Jvm.Cond.selects "java/lang/String" ({ cls := "java/lang/String", name := "length", desc := "()I" } : Jvm.MethodName) ({ cls := "java/lang/String", name := "length", desc := "()I" } : Jvm.MethodName)) ∈ zts := zts_r 360 (by decide +kernel) (by decide +kernel)
theorem wd_361 : (Jvm.Cond.code ({ cls := "java/lang/String", name := "length", desc := "()I" } : Jvm.MethodName) prog_14_method_54_code (1 : Nat) (Option.some Jvm.ClassFile.FieldType.int)) ∈ zts := zts_r 361 (by decide +kernel) (by decide +kernel)
theorem wd_362 : (Jvm.Cond.methodLink "java/lang/String" (335 : Nat) ({ cls := "java/lang/String", name := "coder", desc := "()B" } : Jvm.MethodName)) ∈ zts := zts_r 362 (by decide +kernel) (by decide +kernel)
theorem wd_363 : (Jvm.Cond.instanceMethod ({ cls := "java/lang/String", name := "coder", desc := "()B" } : Jvm.MethodName)) ∈ zts := zts_r 363 (by decide +kernel) (by decide +kernel)
theorem wd_364 : (Jvm.Cond.selects "java/lang/String" ({ cls := "java/lang/String", name := "coder", desc := "()B" } : Jvm.MethodName) ({ cls := "java/lang/String", name := "coder", desc := "()B" } : Jvm.MethodName)) ∈ zts := zts_r 364 (by decide +kernel) (by decide +kernel)
theorem wd_365 : (Jvm.Cond.code ({ cls := "java/lang/String", name := "coder", desc := "()B" } : Jvm.MethodName) prog_14_method_152_code (1 : Nat) (Option.some Jvm.ClassFile.FieldType.byte)) ∈ zts := zts_r 365 (by decide +kernel) (by decide +kernel)
theorem wd_366 : (Jvm.Cond.fieldLink "java/lang/String" (38 : Nat) "java/lang/String" "COMPACT_STRINGS" "Z") ∈ zts := zts_r 366 (by decide +kernel) (by decide +kernel)
theorem wd_368 : (Jvm.Cond.methodLink "YoungerBack$Tape" (144 : Nat) ({ cls := "java/lang/String", name := "charAt", desc := "(I)C" } : Jvm.MethodName)) ∈ zts := zts_r 368 (by decide +kernel) (by decide +kernel)
theorem wd_369 : (Jvm.Cond.instanceMethod ({ cls := "java/lang/String", name := "charAt", desc := "(I)C" } : Jvm.MethodName)) ∈ zts := zts_r 369 (by decide +kernel) (by decide +kernel)
theorem wd_370 : (Jvm.Cond.selects "java/lang/String" ({ cls := "java/lang/String", name := "charAt", desc := "(I)C" } : Jvm.MethodName) ({ cls := "java/lang/String", name := "charAt", desc := "(I)C" } : Jvm.MethodName)) ∈ zts := zts_r 370 (by decide +kernel) (by decide +kernel)
theorem wd_371 : (Jvm.Cond.code ({ cls := "java/lang/String", name := "charAt", desc := "(I)C" } : Jvm.MethodName) prog_14_method_56_code (2 : Nat) (Option.some Jvm.ClassFile.FieldType.char)) ∈ zts := zts_r 371 (by decide +kernel) (by decide +kernel)
theorem wd_372 : (Jvm.Cond.methodLink "java/lang/String" (492 : Nat) ({ cls := "java/lang/String", name := "isLatin1", desc := "()Z" } : Jvm.MethodName)) ∈ zts := zts_r 372 (by decide +kernel) (by decide +kernel)
theorem wd_373 : (Jvm.Cond.instanceMethod ({ cls := "java/lang/String", name := "isLatin1", desc := "()Z" } : Jvm.MethodName)) ∈ zts := zts_r 373 (by decide +kernel) (by decide +kernel)
theorem wd_374 : (Jvm.Cond.selects "java/lang/String" ({ cls := "java/lang/String", name := "isLatin1", desc := "()Z" } : Jvm.MethodName) ({ cls := "java/lang/String", name := "isLatin1", desc := "()Z" } : Jvm.MethodName)) ∈ zts := zts_r 374 (by decide +kernel) (by decide +kernel)
theorem wd_375 : (Jvm.Cond.code ({ cls := "java/lang/String", name := "isLatin1", desc := "()Z" } : Jvm.MethodName) prog_14_method_154_code (1 : Nat) (Option.some Jvm.ClassFile.FieldType.boolean)) ∈ zts := zts_r 375 (by decide +kernel) (by decide +kernel)
theorem wd_376 : (Jvm.Cond.methodLink "java/lang/String" (495 : Nat) ({ cls := "java/lang/StringLatin1", name := "charAt", desc := "([BI)C" } : Jvm.MethodName)) ∈ zts := zts_r 376 (by decide +kernel) (by decide +kernel)
theorem wd_377 : (Jvm.Cond.static ({ cls := "java/lang/StringLatin1", name := "charAt", desc := "([BI)C" } : Jvm.MethodName)) ∈ zts := zts_r 377 (by decide +kernel) (by decide +kernel)
theorem wd_378 : (Jvm.Cond.code ({ cls := "java/lang/StringLatin1", name := "charAt", desc := "([BI)C" } : Jvm.MethodName) prog_15_method_2_code (2 : Nat) (Option.some Jvm.ClassFile.FieldType.char)) ∈ zts := zts_r 378 (by decide +kernel) (by decide +kernel)
theorem wd_379 : (Jvm.Cond.methodLink "java/lang/StringLatin1" (9 : Nat) ({ cls := "java/lang/String", name := "checkIndex", desc := "(II)V" } : Jvm.MethodName)) ∈ zts := zts_r 379 (by decide +kernel) (by decide +kernel)
theorem wd_380 : (Jvm.Cond.static ({ cls := "java/lang/String", name := "checkIndex", desc := "(II)V" } : Jvm.MethodName)) ∈ zts := zts_r 380 (by decide +kernel) (by decide +kernel)
theorem wd_381 : (Jvm.Cond.code ({ cls := "java/lang/String", name := "checkIndex", desc := "(II)V" } : Jvm.MethodName) prog_14_method_155_code (2 : Nat) (Option.none : Option Jvm.ClassFile.FieldType)) ∈ zts := zts_r 381 (by decide +kernel) (by decide +kernel)
theorem wd_382 : (Jvm.Cond.fieldLink "java/lang/String" (1053 : Nat) "jdk/internal/util/Preconditions" "SIOOBE_FORMATTER" "Ljava/util/function/BiFunction;") ∈ zts := zts_r 382 (by decide +kernel) (by decide +kernel)
theorem wd_384 : (Jvm.Cond.methodLink "java/lang/String" (1059 : Nat) ({ cls := "jdk/internal/util/Preconditions", name := "checkIndex", desc := "(IILjava/util/function/BiFunction;)I" } : Jvm.MethodName)) ∈ zts := zts_r 384 (by decide +kernel) (by decide +kernel)
theorem wd_385 : (Jvm.Cond.static ({ cls := "jdk/internal/util/Preconditions", name := "checkIndex", desc := "(IILjava/util/function/BiFunction;)I" } : Jvm.MethodName)) ∈ zts := zts_r 385 (by decide +kernel) (by decide +kernel)
theorem wd_386 : (Jvm.Cond.code ({ cls := "jdk/internal/util/Preconditions", name := "checkIndex", desc := "(IILjava/util/function/BiFunction;)I" } : Jvm.MethodName) prog_18_method_11_code (3 : Nat) (Option.some Jvm.ClassFile.FieldType.int)) ∈ zts := zts_r 386 (by decide +kernel) (by decide +kernel)
theorem wd_387 : (Jvm.Cond.methodLink "java/lang/String" (498 : Nat) ({ cls := "java/lang/StringUTF16", name := "charAt", desc := "([BI)C" } : Jvm.MethodName)) ∈ zts := zts_r 387 (by decide +kernel) (by decide +kernel)
theorem wd_388 : (Jvm.Cond.static ({ cls := "java/lang/StringUTF16", name := "charAt", desc := "([BI)C" } : Jvm.MethodName)) ∈ zts := zts_r 388 (by decide +kernel) (by decide +kernel)
theorem wd_389 : (Jvm.Cond.code ({ cls := "java/lang/StringUTF16", name := "charAt", desc := "([BI)C" } : Jvm.MethodName) prog_16_method_83_code (2 : Nat) (Option.some Jvm.ClassFile.FieldType.char)) ∈ zts := zts_r 389 (by decide +kernel) (by decide +kernel)
theorem wd_390 : (Jvm.Cond.methodLink "java/lang/StringUTF16" (67 : Nat) ({ cls := "java/lang/StringUTF16", name := "checkIndex", desc := "(I[B)V" } : Jvm.MethodName)) ∈ zts := zts_r 390 (by decide +kernel) (by decide +kernel)
theorem wd_391 : (Jvm.Cond.static ({ cls := "java/lang/StringUTF16", name := "checkIndex", desc := "(I[B)V" } : Jvm.MethodName)) ∈ zts := zts_r 391 (by decide +kernel) (by decide +kernel)
theorem wd_392 : (Jvm.Cond.code ({ cls := "java/lang/StringUTF16", name := "checkIndex", desc := "(I[B)V" } : Jvm.MethodName) prog_16_method_91_code (2 : Nat) (Option.none : Option Jvm.ClassFile.FieldType)) ∈ zts := zts_r 392 (by decide +kernel) (by decide +kernel)
theorem wd_393 : (Jvm.Cond.methodLink "java/lang/StringUTF16" (48 : Nat) ({ cls := "java/lang/StringUTF16", name := "length", desc := "([B)I" } : Jvm.MethodName)) ∈ zts := zts_r 393 (by decide +kernel) (by decide +kernel)
theorem wd_394 : (Jvm.Cond.static ({ cls := "java/lang/StringUTF16", name := "length", desc := "([B)I" } : Jvm.MethodName)) ∈ zts := zts_r 394 (by decide +kernel) (by decide +kernel)
theorem wd_395 : (Jvm.Cond.code ({ cls := "java/lang/StringUTF16", name := "length", desc := "([B)I" } : Jvm.MethodName) prog_16_method_6_code (1 : Nat) (Option.some Jvm.ClassFile.FieldType.int)) ∈ zts := zts_r 395 (by decide +kernel) (by decide +kernel)
theorem wd_396 : (Jvm.Cond.methodLink "java/lang/StringUTF16" (414 : Nat) ({ cls := "java/lang/String", name := "checkIndex", desc := "(II)V" } : Jvm.MethodName)) ∈ zts := zts_r 396 (by decide +kernel) (by decide +kernel)
theorem wd_397 : (Jvm.Cond.methodLink "java/lang/StringUTF16" (71 : Nat) ({ cls := "java/lang/StringUTF16", name := "getChar", desc := "([BI)C" } : Jvm.MethodName)) ∈ zts := zts_r 397 (by decide +kernel) (by decide +kernel)
theorem wd_398 : (Jvm.Cond.static ({ cls := "java/lang/StringUTF16", name := "getChar", desc := "([BI)C" } : Jvm.MethodName)) ∈ zts := zts_r 398 (by decide +kernel) (by decide +kernel)
theorem wd_399 : (Jvm.Cond.code ({ cls := "java/lang/StringUTF16", name := "getChar", desc := "([BI)C" } : Jvm.MethodName) prog_16_method_5_code (2 : Nat) (Option.some Jvm.ClassFile.FieldType.char)) ∈ zts := zts_r 399 (by decide +kernel) (by decide +kernel)
theorem wd_400 : (Jvm.Cond.fieldLink "java/lang/StringUTF16" (44 : Nat) "java/lang/StringUTF16" "$assertionsDisabled" "Z") ∈ zts := zts_r 400 (by decide +kernel) (by decide +kernel)
theorem wd_402 : (Jvm.Cond.fieldLink "java/lang/StringUTF16" (59 : Nat) "java/lang/StringUTF16" "HI_BYTE_SHIFT" "I") ∈ zts := zts_r 402 (by decide +kernel) (by decide +kernel)
theorem wd_404 : (Jvm.Cond.fieldLink "java/lang/StringUTF16" (63 : Nat) "java/lang/StringUTF16" "LO_BYTE_SHIFT" "I") ∈ zts := zts_r 404 (by decide +kernel) (by decide +kernel)
theorem wd_406 : (Jvm.Cond.methodLink "YoungerBack$Tape" (85 : Nat) ({ cls := "YoungerBack$Tape", name := "fail", desc := "(I)V" } : Jvm.MethodName)) ∈ zts := zts_r 406 (by decide +kernel) (by decide +kernel)
theorem wd_408 : (Jvm.Cond.instanceMethod ({ cls := "YoungerBack$Tape", name := "fail", desc := "(I)V" } : Jvm.MethodName)) ∈ zts := zts_r 408 (by decide +kernel) (by decide +kernel)
theorem wd_409 : (Jvm.Cond.code ({ cls := "YoungerBack$Tape", name := "fail", desc := "(I)V" } : Jvm.MethodName) prog_7_method_6_code (2 : Nat) (Option.none : Option Jvm.ClassFile.FieldType)) ∈ zts := zts_r 409 (by decide +kernel) (by decide +kernel)
theorem wd_410 : (Jvm.Cond.constant "YoungerBack$Tape" (56 : Nat) (-1000000 : Int32)) ∈ zts := zts_r 410 (by decide +kernel) (by decide +kernel)
theorem wd_411 : (Jvm.Cond.methodLink "YoungerBack$Tape" (57 : Nat) ({ cls := "YoungerBack$Tape", name := "takeNumber", desc := "(III)I" } : Jvm.MethodName)) ∈ zts := zts_r 411 (by decide +kernel) (by decide +kernel)
theorem wd_413 : (Jvm.Cond.instanceMethod ({ cls := "YoungerBack$Tape", name := "takeNumber", desc := "(III)I" } : Jvm.MethodName)) ∈ zts := zts_r 413 (by decide +kernel) (by decide +kernel)
theorem wd_414 : (Jvm.Cond.code ({ cls := "YoungerBack$Tape", name := "takeNumber", desc := "(III)I" } : Jvm.MethodName) prog_7_method_10_code (5 : Nat) (Option.some Jvm.ClassFile.FieldType.int)) ∈ zts := zts_r 414 (by decide +kernel) (by decide +kernel)
theorem wd_416 : (Jvm.Cond.methodLink "YoungerBack$Tape" (67 : Nat) ({ cls := "YoungerBack$Tape", name := "takeSign", desc := "()V" } : Jvm.MethodName)) ∈ zts := zts_r 416 (by decide +kernel) (by decide +kernel)
theorem wd_418 : (Jvm.Cond.instanceMethod ({ cls := "YoungerBack$Tape", name := "takeSign", desc := "()V" } : Jvm.MethodName)) ∈ zts := zts_r 418 (by decide +kernel) (by decide +kernel)
theorem wd_419 : (Jvm.Cond.code ({ cls := "YoungerBack$Tape", name := "takeSign", desc := "()V" } : Jvm.MethodName) prog_7_method_9_code (1 : Nat) (Option.none : Option Jvm.ClassFile.FieldType)) ∈ zts := zts_r 419 (by decide +kernel) (by decide +kernel)
theorem wd_421 : (Jvm.Cond.methodLink "YoungerBack$Tape" (76 : Nat) ({ cls := "YoungerBack$Tape", name := "readWay", desc := "(LYoungerBack$League;)V" } : Jvm.MethodName)) ∈ zts := zts_r 421 (by decide +kernel) (by decide +kernel)
theorem wd_423 : (Jvm.Cond.instanceMethod ({ cls := "YoungerBack$Tape", name := "readWay", desc := "(LYoungerBack$League;)V" } : Jvm.MethodName)) ∈ zts := zts_r 423 (by decide +kernel) (by decide +kernel)
theorem wd_424 : (Jvm.Cond.code ({ cls := "YoungerBack$Tape", name := "readWay", desc := "(LYoungerBack$League;)V" } : Jvm.MethodName) prog_7_method_4_code (3 : Nat) (Option.none : Option Jvm.ClassFile.FieldType)) ∈ zts := zts_r 424 (by decide +kernel) (by decide +kernel)
theorem wd_426 : (Jvm.Cond.methodLink "YoungerBack$Tape" (82 : Nat) ({ cls := "YoungerBack$Tape", name := "readPerson", desc := "(LYoungerBack$League;)V" } : Jvm.MethodName)) ∈ zts := zts_r 426 (by decide +kernel) (by decide +kernel)
theorem wd_428 : (Jvm.Cond.instanceMethod ({ cls := "YoungerBack$Tape", name := "readPerson", desc := "(LYoungerBack$League;)V" } : Jvm.MethodName)) ∈ zts := zts_r 428 (by decide +kernel) (by decide +kernel)
theorem wd_429 : (Jvm.Cond.code ({ cls := "YoungerBack$Tape", name := "readPerson", desc := "(LYoungerBack$League;)V" } : Jvm.MethodName) prog_7_method_5_code (5 : Nat) (Option.none : Option Jvm.ClassFile.FieldType)) ∈ zts := zts_r 429 (by decide +kernel) (by decide +kernel)
theorem wd_430 : (Jvm.Cond.methodLink "YoungerBack$Tape" (107 : Nat) ({ cls := "YoungerBack$Tape", name := "takeSort", desc := "()I" } : Jvm.MethodName)) ∈ zts := zts_r 430 (by decide +kernel) (by decide +kernel)
theorem wd_432 : (Jvm.Cond.instanceMethod ({ cls := "YoungerBack$Tape", name := "takeSort", desc := "()I" } : Jvm.MethodName)) ∈ zts := zts_r 432 (by decide +kernel) (by decide +kernel)
theorem wd_433 : (Jvm.Cond.code ({ cls := "YoungerBack$Tape", name := "takeSort", desc := "()I" } : Jvm.MethodName) prog_7_method_8_code (2 : Nat) (Option.some Jvm.ClassFile.FieldType.int)) ∈ zts := zts_r 433 (by decide +kernel) (by decide +kernel)
theorem wd_434 : (Jvm.Cond.methodLink "YoungerBack$Tape" (121 : Nat) ({ cls := "YoungerBack$Tape", name := "sortWord", desc := "(I)Ljava/lang/String;" } : Jvm.MethodName)) ∈ zts := zts_r 434 (by decide +kernel) (by decide +kernel)
theorem wd_435 : (Jvm.Cond.static ({ cls := "YoungerBack$Tape", name := "sortWord", desc := "(I)Ljava/lang/String;" } : Jvm.MethodName)) ∈ zts := zts_r 435 (by decide +kernel) (by decide +kernel)
theorem wd_436 : (Jvm.Cond.code ({ cls := "YoungerBack$Tape", name := "sortWord", desc := "(I)Ljava/lang/String;" } : Jvm.MethodName) prog_7_method_11_code (1 : Nat) (Option.some (Jvm.ClassFile.FieldType.object "java/lang/String"))) ∈ zts := zts_r 436 (by decide +kernel) (by decide +kernel)
theorem wd_442 : (Jvm.Cond.methodLink "YoungerBack$Tape" (115 : Nat) ({ cls := "YoungerBack$Person", name := "beginsAs", desc := "(III)V" } : Jvm.MethodName)) ∈ zts := zts_r 442 (by decide +kernel) (by decide +kernel)
theorem wd_443 : (Jvm.Cond.instanceMethod ({ cls := "YoungerBack$Person", name := "beginsAs", desc := "(III)V" } : Jvm.MethodName)) ∈ zts := zts_r 443 (by decide +kernel) (by decide +kernel)
theorem wd_444 : (Jvm.Cond.selects "YoungerBack$Person" ({ cls := "YoungerBack$Person", name := "beginsAs", desc := "(III)V" } : Jvm.MethodName) ({ cls := "YoungerBack$Person", name := "beginsAs", desc := "(III)V" } : Jvm.MethodName)) ∈ zts := zts_r 444 (by decide +kernel) (by decide +kernel)
theorem wd_445 : (Jvm.Cond.code ({ cls := "YoungerBack$Person", name := "beginsAs", desc := "(III)V" } : Jvm.MethodName) prog_6_method_2_code (4 : Nat) (Option.none : Option Jvm.ClassFile.FieldType)) ∈ zts := zts_r 445 (by decide +kernel) (by decide +kernel)
theorem wd_446 : (Jvm.Cond.constant "YoungerBack" (128 : Nat) (-1000100 : Int32)) ∈ zts := zts_r 446 (by decide +kernel) (by decide +kernel)
theorem wd_447 : (Jvm.Cond.methodLink "YoungerBack" (132 : Nat) ({ cls := "YoungerBack$League", name := "standsAs", desc := "(LYoungerBack$League;)V" } : Jvm.MethodName)) ∈ zts := zts_r 447 (by decide +kernel) (by decide +kernel)
theorem wd_448 : (Jvm.Cond.instanceMethod ({ cls := "YoungerBack$League", name := "standsAs", desc := "(LYoungerBack$League;)V" } : Jvm.MethodName)) ∈ zts := zts_r 448 (by decide +kernel) (by decide +kernel)
theorem wd_449 : (Jvm.Cond.selects "YoungerBack$League" ({ cls := "YoungerBack$League", name := "standsAs", desc := "(LYoungerBack$League;)V" } : Jvm.MethodName) ({ cls := "YoungerBack$League", name := "standsAs", desc := "(LYoungerBack$League;)V" } : Jvm.MethodName)) ∈ zts := zts_r 449 (by decide +kernel) (by decide +kernel)
theorem wd_450 : (Jvm.Cond.code ({ cls := "YoungerBack$League", name := "standsAs", desc := "(LYoungerBack$League;)V" } : Jvm.MethodName) prog_5_method_2_code (3 : Nat) (Option.none : Option Jvm.ClassFile.FieldType)) ∈ zts := zts_r 450 (by decide +kernel) (by decide +kernel)
theorem wd_451 : (Jvm.Cond.methodLink "YoungerBack$League" (38 : Nat) ({ cls := "YoungerBack$Way", name := "becomes", desc := "(LYoungerBack$Way;)V" } : Jvm.MethodName)) ∈ zts := zts_r 451 (by decide +kernel) (by decide +kernel)
theorem wd_452 : (Jvm.Cond.instanceMethod ({ cls := "YoungerBack$Way", name := "becomes", desc := "(LYoungerBack$Way;)V" } : Jvm.MethodName)) ∈ zts := zts_r 452 (by decide +kernel) (by decide +kernel)
theorem wd_453 : (Jvm.Cond.selects "YoungerBack$Way" ({ cls := "YoungerBack$Way", name := "becomes", desc := "(LYoungerBack$Way;)V" } : Jvm.MethodName) ({ cls := "YoungerBack$Way", name := "becomes", desc := "(LYoungerBack$Way;)V" } : Jvm.MethodName)) ∈ zts := zts_r 453 (by decide +kernel) (by decide +kernel)
theorem wd_454 : (Jvm.Cond.code ({ cls := "YoungerBack$Way", name := "becomes", desc := "(LYoungerBack$Way;)V" } : Jvm.MethodName) prog_8_method_2_code (2 : Nat) (Option.none : Option Jvm.ClassFile.FieldType)) ∈ zts := zts_r 454 (by decide +kernel) (by decide +kernel)
theorem wd_455 : (Jvm.Cond.methodLink "YoungerBack$League" (42 : Nat) ({ cls := "YoungerBack$Person", name := "becomes", desc := "(LYoungerBack$Person;)V" } : Jvm.MethodName)) ∈ zts := zts_r 455 (by decide +kernel) (by decide +kernel)
theorem wd_456 : (Jvm.Cond.instanceMethod ({ cls := "YoungerBack$Person", name := "becomes", desc := "(LYoungerBack$Person;)V" } : Jvm.MethodName)) ∈ zts := zts_r 456 (by decide +kernel) (by decide +kernel)
theorem wd_457 : (Jvm.Cond.selects "YoungerBack$Person" ({ cls := "YoungerBack$Person", name := "becomes", desc := "(LYoungerBack$Person;)V" } : Jvm.MethodName) ({ cls := "YoungerBack$Person", name := "becomes", desc := "(LYoungerBack$Person;)V" } : Jvm.MethodName)) ∈ zts := zts_r 457 (by decide +kernel) (by decide +kernel)
theorem wd_458 : (Jvm.Cond.code ({ cls := "YoungerBack$Person", name := "becomes", desc := "(LYoungerBack$Person;)V" } : Jvm.MethodName) prog_6_method_3_code (2 : Nat) (Option.none : Option Jvm.ClassFile.FieldType)) ∈ zts := zts_r 458 (by decide +kernel) (by decide +kernel)
theorem wd_459 : (Jvm.Cond.methodLink "YoungerBack" (135 : Nat) ({ cls := "YoungerBack$Acts", name := "forget", desc := "()V" } : Jvm.MethodName)) ∈ zts := zts_r 459 (by decide +kernel) (by decide +kernel)
theorem wd_460 : (Jvm.Cond.instanceMethod ({ cls := "YoungerBack$Acts", name := "forget", desc := "()V" } : Jvm.MethodName)) ∈ zts := zts_r 460 (by decide +kernel) (by decide +kernel)
theorem wd_461 : (Jvm.Cond.selects "YoungerBack$Acts" ({ cls := "YoungerBack$Acts", name := "forget", desc := "()V" } : Jvm.MethodName) ({ cls := "YoungerBack$Acts", name := "forget", desc := "()V" } : Jvm.MethodName)) ∈ zts := zts_r 461 (by decide +kernel) (by decide +kernel)
theorem wd_462 : (Jvm.Cond.code ({ cls := "YoungerBack$Acts", name := "forget", desc := "()V" } : Jvm.MethodName) prog_2_method_2_code (1 : Nat) (Option.none : Option Jvm.ClassFile.FieldType)) ∈ zts := zts_r 462 (by decide +kernel) (by decide +kernel)
theorem wd_463 : (Jvm.Cond.arrayClass Jvm.ClassFile.FieldType.byte) ∈ zts := zts_r 463 (by decide +kernel) (by decide +kernel)
theorem wd_464 : (Jvm.Cond.methodLink "YoungerBackLaw" (44 : Nat) ({ cls := "YoungerBack", name := "fault", desc := "()I" } : Jvm.MethodName)) ∈ zts := zts_r 464 (by decide +kernel) (by decide +kernel)
theorem wd_465 : (Jvm.Cond.instanceMethod ({ cls := "YoungerBack", name := "fault", desc := "()I" } : Jvm.MethodName)) ∈ zts := zts_r 465 (by decide +kernel) (by decide +kernel)
theorem wd_466 : (Jvm.Cond.selects "YoungerBack" ({ cls := "YoungerBack", name := "fault", desc := "()I" } : Jvm.MethodName) ({ cls := "YoungerBack", name := "fault", desc := "()I" } : Jvm.MethodName)) ∈ zts := zts_r 466 (by decide +kernel) (by decide +kernel)
theorem wd_467 : (Jvm.Cond.code ({ cls := "YoungerBack", name := "fault", desc := "()I" } : Jvm.MethodName) prog_1_method_8_code (1 : Nat) (Option.some Jvm.ClassFile.FieldType.int)) ∈ zts := zts_r 467 (by decide +kernel) (by decide +kernel)
theorem wd_468 : (Jvm.Cond.methodLink "YoungerBackLaw" (48 : Nat) ({ cls := "YoungerBack", name := "sail", desc := "(II)I" } : Jvm.MethodName)) ∈ zts := zts_r 468 (by decide +kernel) (by decide +kernel)
theorem wd_469 : (Jvm.Cond.instanceMethod ({ cls := "YoungerBack", name := "sail", desc := "(II)I" } : Jvm.MethodName)) ∈ zts := zts_r 469 (by decide +kernel) (by decide +kernel)
theorem wd_470 : (Jvm.Cond.selects "YoungerBack" ({ cls := "YoungerBack", name := "sail", desc := "(II)I" } : Jvm.MethodName) ({ cls := "YoungerBack", name := "sail", desc := "(II)I" } : Jvm.MethodName)) ∈ zts := zts_r 470 (by decide +kernel) (by decide +kernel)
theorem wd_471 : (Jvm.Cond.code ({ cls := "YoungerBack", name := "sail", desc := "(II)I" } : Jvm.MethodName) prog_1_method_9_code (4 : Nat) (Option.some Jvm.ClassFile.FieldType.int)) ∈ zts := zts_r 471 (by decide +kernel) (by decide +kernel)
theorem wd_472 : (Jvm.Cond.methodLink "YoungerBack" (141 : Nat) ({ cls := "YoungerBack", name := "isNobody", desc := "(I)Z" } : Jvm.MethodName)) ∈ zts := zts_r 472 (by decide +kernel) (by decide +kernel)
theorem wd_474 : (Jvm.Cond.instanceMethod ({ cls := "YoungerBack", name := "isNobody", desc := "(I)Z" } : Jvm.MethodName)) ∈ zts := zts_r 474 (by decide +kernel) (by decide +kernel)
theorem wd_475 : (Jvm.Cond.code ({ cls := "YoungerBack", name := "isNobody", desc := "(I)Z" } : Jvm.MethodName) prog_1_method_39_code (2 : Nat) (Option.some Jvm.ClassFile.FieldType.boolean)) ∈ zts := zts_r 475 (by decide +kernel) (by decide +kernel)
theorem wd_476 : (Jvm.Cond.methodLink "YoungerBack" (144 : Nat) ({ cls := "YoungerBack", name := "isNoWay", desc := "(I)Z" } : Jvm.MethodName)) ∈ zts := zts_r 476 (by decide +kernel) (by decide +kernel)
theorem wd_478 : (Jvm.Cond.instanceMethod ({ cls := "YoungerBack", name := "isNoWay", desc := "(I)Z" } : Jvm.MethodName)) ∈ zts := zts_r 478 (by decide +kernel) (by decide +kernel)
theorem wd_479 : (Jvm.Cond.code ({ cls := "YoungerBack", name := "isNoWay", desc := "(I)Z" } : Jvm.MethodName) prog_1_method_40_code (2 : Nat) (Option.some Jvm.ClassFile.FieldType.boolean)) ∈ zts := zts_r 479 (by decide +kernel) (by decide +kernel)
theorem wd_480 : (Jvm.Cond.methodLink "YoungerBack" (147 : Nat) ({ cls := "YoungerBack", name := "sailOnce", desc := "(II)I" } : Jvm.MethodName)) ∈ zts := zts_r 480 (by decide +kernel) (by decide +kernel)
theorem wd_482 : (Jvm.Cond.instanceMethod ({ cls := "YoungerBack", name := "sailOnce", desc := "(II)I" } : Jvm.MethodName)) ∈ zts := zts_r 482 (by decide +kernel) (by decide +kernel)
theorem wd_483 : (Jvm.Cond.code ({ cls := "YoungerBack", name := "sailOnce", desc := "(II)I" } : Jvm.MethodName) prog_1_method_42_code (5 : Nat) (Option.some Jvm.ClassFile.FieldType.int)) ∈ zts := zts_r 483 (by decide +kernel) (by decide +kernel)
theorem wd_484 : (Jvm.Cond.methodLink "YoungerBack" (272 : Nat) ({ cls := "YoungerBack$Way", name := "endsIn", desc := "(I)Z" } : Jvm.MethodName)) ∈ zts := zts_r 484 (by decide +kernel) (by decide +kernel)
theorem wd_485 : (Jvm.Cond.instanceMethod ({ cls := "YoungerBack$Way", name := "endsIn", desc := "(I)Z" } : Jvm.MethodName)) ∈ zts := zts_r 485 (by decide +kernel) (by decide +kernel)
theorem wd_486 : (Jvm.Cond.selects "YoungerBack$Way" ({ cls := "YoungerBack$Way", name := "endsIn", desc := "(I)Z" } : Jvm.MethodName) ({ cls := "YoungerBack$Way", name := "endsIn", desc := "(I)Z" } : Jvm.MethodName)) ∈ zts := zts_r 486 (by decide +kernel) (by decide +kernel)
theorem wd_487 : (Jvm.Cond.code ({ cls := "YoungerBack$Way", name := "endsIn", desc := "(I)Z" } : Jvm.MethodName) prog_8_method_3_code (2 : Nat) (Option.some Jvm.ClassFile.FieldType.boolean)) ∈ zts := zts_r 487 (by decide +kernel) (by decide +kernel)
theorem wd_488 : (Jvm.Cond.methodLink "YoungerBack" (277 : Nat) ({ cls := "YoungerBack$Person", name := "maySail", desc := "(LYoungerBack$Way;)Z" } : Jvm.MethodName)) ∈ zts := zts_r 488 (by decide +kernel) (by decide +kernel)
theorem wd_489 : (Jvm.Cond.instanceMethod ({ cls := "YoungerBack$Person", name := "maySail", desc := "(LYoungerBack$Way;)Z" } : Jvm.MethodName)) ∈ zts := zts_r 489 (by decide +kernel) (by decide +kernel)
theorem wd_490 : (Jvm.Cond.selects "YoungerBack$Person" ({ cls := "YoungerBack$Person", name := "maySail", desc := "(LYoungerBack$Way;)Z" } : Jvm.MethodName) ({ cls := "YoungerBack$Person", name := "maySail", desc := "(LYoungerBack$Way;)Z" } : Jvm.MethodName)) ∈ zts := zts_r 490 (by decide +kernel) (by decide +kernel)
theorem wd_491 : (Jvm.Cond.code ({ cls := "YoungerBack$Person", name := "maySail", desc := "(LYoungerBack$Way;)Z" } : Jvm.MethodName) prog_6_method_5_code (2 : Nat) (Option.some Jvm.ClassFile.FieldType.boolean)) ∈ zts := zts_r 491 (by decide +kernel) (by decide +kernel)
theorem wd_492 : (Jvm.Cond.constant "YoungerBack" (172 : Nat) (-1000002 : Int32)) ∈ zts := zts_r 492 (by decide +kernel) (by decide +kernel)
theorem wd_493 : (Jvm.Cond.methodLink "YoungerBack" (162 : Nat) ({ cls := "YoungerBack$Acts", name := "keep", desc := "(LYoungerBack$League;)V" } : Jvm.MethodName)) ∈ zts := zts_r 493 (by decide +kernel) (by decide +kernel)
theorem wd_494 : (Jvm.Cond.instanceMethod ({ cls := "YoungerBack$Acts", name := "keep", desc := "(LYoungerBack$League;)V" } : Jvm.MethodName)) ∈ zts := zts_r 494 (by decide +kernel) (by decide +kernel)
theorem wd_495 : (Jvm.Cond.selects "YoungerBack$Acts" ({ cls := "YoungerBack$Acts", name := "keep", desc := "(LYoungerBack$League;)V" } : Jvm.MethodName) ({ cls := "YoungerBack$Acts", name := "keep", desc := "(LYoungerBack$League;)V" } : Jvm.MethodName)) ∈ zts := zts_r 495 (by decide +kernel) (by decide +kernel)
theorem wd_496 : (Jvm.Cond.code ({ cls := "YoungerBack$Acts", name := "keep", desc := "(LYoungerBack$League;)V" } : Jvm.MethodName) prog_2_method_3_code (4 : Nat) (Option.none : Option Jvm.ClassFile.FieldType)) ∈ zts := zts_r 496 (by decide +kernel) (by decide +kernel)
theorem wd_497 : (Jvm.Cond.methodLink "YoungerBack$Acts" (25 : Nat) ({ cls := "YoungerBack$Acts", name := "placeBehindLatest", desc := "()I" } : Jvm.MethodName)) ∈ zts := zts_r 497 (by decide +kernel) (by decide +kernel)
theorem wd_499 : (Jvm.Cond.instanceMethod ({ cls := "YoungerBack$Acts", name := "placeBehindLatest", desc := "()I" } : Jvm.MethodName)) ∈ zts := zts_r 499 (by decide +kernel) (by decide +kernel)
theorem wd_500 : (Jvm.Cond.code ({ cls := "YoungerBack$Acts", name := "placeBehindLatest", desc := "()I" } : Jvm.MethodName) prog_2_method_5_code (1 : Nat) (Option.some Jvm.ClassFile.FieldType.int)) ∈ zts := zts_r 500 (by decide +kernel) (by decide +kernel)
theorem wd_501 : (Jvm.Cond.methodLink "YoungerBack$Acts" (34 : Nat) ({ cls := "YoungerBack$Person", name := "becomes", desc := "(LYoungerBack$Person;)V" } : Jvm.MethodName)) ∈ zts := zts_r 501 (by decide +kernel) (by decide +kernel)
theorem wd_502 : (Jvm.Cond.methodLink "YoungerBack" (284 : Nat) ({ cls := "YoungerBack$Person", name := "sailOn", desc := "(LYoungerBack$Way;)V" } : Jvm.MethodName)) ∈ zts := zts_r 502 (by decide +kernel) (by decide +kernel)
theorem wd_503 : (Jvm.Cond.instanceMethod ({ cls := "YoungerBack$Person", name := "sailOn", desc := "(LYoungerBack$Way;)V" } : Jvm.MethodName)) ∈ zts := zts_r 503 (by decide +kernel) (by decide +kernel)
theorem wd_504 : (Jvm.Cond.selects "YoungerBack$Person" ({ cls := "YoungerBack$Person", name := "sailOn", desc := "(LYoungerBack$Way;)V" } : Jvm.MethodName) ({ cls := "YoungerBack$Person", name := "sailOn", desc := "(LYoungerBack$Way;)V" } : Jvm.MethodName)) ∈ zts := zts_r 504 (by decide +kernel) (by decide +kernel)
theorem wd_505 : (Jvm.Cond.code ({ cls := "YoungerBack$Person", name := "sailOn", desc := "(LYoungerBack$Way;)V" } : Jvm.MethodName) prog_6_method_7_code (2 : Nat) (Option.none : Option Jvm.ClassFile.FieldType)) ∈ zts := zts_r 505 (by decide +kernel) (by decide +kernel)
theorem wd_506 : (Jvm.Cond.methodLink "YoungerBack$Person" (50 : Nat) ({ cls := "YoungerBack$Way", name := "otherEnd", desc := "(I)I" } : Jvm.MethodName)) ∈ zts := zts_r 506 (by decide +kernel) (by decide +kernel)
theorem wd_507 : (Jvm.Cond.instanceMethod ({ cls := "YoungerBack$Way", name := "otherEnd", desc := "(I)I" } : Jvm.MethodName)) ∈ zts := zts_r 507 (by decide +kernel) (by decide +kernel)
theorem wd_508 : (Jvm.Cond.selects "YoungerBack$Way" ({ cls := "YoungerBack$Way", name := "otherEnd", desc := "(I)I" } : Jvm.MethodName) ({ cls := "YoungerBack$Way", name := "otherEnd", desc := "(I)I" } : Jvm.MethodName)) ∈ zts := zts_r 508 (by decide +kernel) (by decide +kernel)
theorem wd_509 : (Jvm.Cond.code ({ cls := "YoungerBack$Way", name := "otherEnd", desc := "(I)I" } : Jvm.MethodName) prog_8_method_4_code (2 : Nat) (Option.some Jvm.ClassFile.FieldType.int)) ∈ zts := zts_r 509 (by decide +kernel) (by decide +kernel)
theorem wd_510 : (Jvm.Cond.methodLink "YoungerBack$Person" (54 : Nat) ({ cls := "YoungerBack$Person", name := "ownYears", desc := "(LYoungerBack$Way;)I" } : Jvm.MethodName)) ∈ zts := zts_r 510 (by decide +kernel) (by decide +kernel)
theorem wd_511 : (Jvm.Cond.instanceMethod ({ cls := "YoungerBack$Person", name := "ownYears", desc := "(LYoungerBack$Way;)I" } : Jvm.MethodName)) ∈ zts := zts_r 511 (by decide +kernel) (by decide +kernel)
theorem wd_512 : (Jvm.Cond.selects "YoungerBack$Person" ({ cls := "YoungerBack$Person", name := "ownYears", desc := "(LYoungerBack$Way;)I" } : Jvm.MethodName) ({ cls := "YoungerBack$Person", name := "ownYears", desc := "(LYoungerBack$Way;)I" } : Jvm.MethodName)) ∈ zts := zts_r 512 (by decide +kernel) (by decide +kernel)
theorem wd_513 : (Jvm.Cond.code ({ cls := "YoungerBack$Person", name := "ownYears", desc := "(LYoungerBack$Way;)I" } : Jvm.MethodName) prog_6_method_6_code (2 : Nat) (Option.some Jvm.ClassFile.FieldType.int)) ∈ zts := zts_r 513 (by decide +kernel) (by decide +kernel)
theorem wd_514 : (Jvm.Cond.methodLink "YoungerBack$Person" (44 : Nat) ({ cls := "java/lang/Math", name := "max", desc := "(II)I" } : Jvm.MethodName)) ∈ zts := zts_r 514 (by decide +kernel) (by decide +kernel)
theorem wd_515 : (Jvm.Cond.static ({ cls := "java/lang/Math", name := "max", desc := "(II)I" } : Jvm.MethodName)) ∈ zts := zts_r 515 (by decide +kernel) (by decide +kernel)
theorem wd_516 : (Jvm.Cond.code ({ cls := "java/lang/Math", name := "max", desc := "(II)I" } : Jvm.MethodName) prog_13_method_65_code (2 : Nat) (Option.some Jvm.ClassFile.FieldType.int)) ∈ zts := zts_r 516 (by decide +kernel) (by decide +kernel)
theorem wd_517 : (Jvm.Cond.methodLink "YoungerBackLaw" (53 : Nat) ({ cls := "YoungerBack", name := "sails", desc := "(IIII)I" } : Jvm.MethodName)) ∈ zts := zts_r 517 (by decide +kernel) (by decide +kernel)
theorem wd_518 : (Jvm.Cond.instanceMethod ({ cls := "YoungerBack", name := "sails", desc := "(IIII)I" } : Jvm.MethodName)) ∈ zts := zts_r 518 (by decide +kernel) (by decide +kernel)
theorem wd_519 : (Jvm.Cond.selects "YoungerBack" ({ cls := "YoungerBack", name := "sails", desc := "(IIII)I" } : Jvm.MethodName) ({ cls := "YoungerBack", name := "sails", desc := "(IIII)I" } : Jvm.MethodName)) ∈ zts := zts_r 519 (by decide +kernel) (by decide +kernel)
theorem wd_520 : (Jvm.Cond.code ({ cls := "YoungerBack", name := "sails", desc := "(IIII)I" } : Jvm.MethodName) prog_1_method_10_code (6 : Nat) (Option.some Jvm.ClassFile.FieldType.int)) ∈ zts := zts_r 520 (by decide +kernel) (by decide +kernel)
theorem wd_521 : (Jvm.Cond.methodLink "YoungerBackLaw" (58 : Nat) ({ cls := "YoungerBack", name := "stay", desc := "(II)I" } : Jvm.MethodName)) ∈ zts := zts_r 521 (by decide +kernel) (by decide +kernel)
theorem wd_522 : (Jvm.Cond.instanceMethod ({ cls := "YoungerBack", name := "stay", desc := "(II)I" } : Jvm.MethodName)) ∈ zts := zts_r 522 (by decide +kernel) (by decide +kernel)
theorem wd_523 : (Jvm.Cond.selects "YoungerBack" ({ cls := "YoungerBack", name := "stay", desc := "(II)I" } : Jvm.MethodName) ({ cls := "YoungerBack", name := "stay", desc := "(II)I" } : Jvm.MethodName)) ∈ zts := zts_r 523 (by decide +kernel) (by decide +kernel)
theorem wd_524 : (Jvm.Cond.code ({ cls := "YoungerBack", name := "stay", desc := "(II)I" } : Jvm.MethodName) prog_1_method_11_code (4 : Nat) (Option.some Jvm.ClassFile.FieldType.int)) ∈ zts := zts_r 524 (by decide +kernel) (by decide +kernel)
theorem wd_525 : (Jvm.Cond.methodLink "YoungerBack" (165 : Nat) ({ cls := "YoungerBack$Person", name := "stayFor", desc := "(I)V" } : Jvm.MethodName)) ∈ zts := zts_r 525 (by decide +kernel) (by decide +kernel)
theorem wd_526 : (Jvm.Cond.instanceMethod ({ cls := "YoungerBack$Person", name := "stayFor", desc := "(I)V" } : Jvm.MethodName)) ∈ zts := zts_r 526 (by decide +kernel) (by decide +kernel)
theorem wd_527 : (Jvm.Cond.selects "YoungerBack$Person" ({ cls := "YoungerBack$Person", name := "stayFor", desc := "(I)V" } : Jvm.MethodName) ({ cls := "YoungerBack$Person", name := "stayFor", desc := "(I)V" } : Jvm.MethodName)) ∈ zts := zts_r 527 (by decide +kernel) (by decide +kernel)
theorem wd_528 : (Jvm.Cond.code ({ cls := "YoungerBack$Person", name := "stayFor", desc := "(I)V" } : Jvm.MethodName) prog_6_method_8_code (2 : Nat) (Option.none : Option Jvm.ClassFile.FieldType)) ∈ zts := zts_r 528 (by decide +kernel) (by decide +kernel)
theorem wd_529 : (Jvm.Cond.methodLink "YoungerBackLaw" (62 : Nat) ({ cls := "YoungerBack", name := "meet", desc := "(II)I" } : Jvm.MethodName)) ∈ zts := zts_r 529 (by decide +kernel) (by decide +kernel)
theorem wd_530 : (Jvm.Cond.instanceMethod ({ cls := "YoungerBack", name := "meet", desc := "(II)I" } : Jvm.MethodName)) ∈ zts := zts_r 530 (by decide +kernel) (by decide +kernel)
theorem wd_531 : (Jvm.Cond.selects "YoungerBack" ({ cls := "YoungerBack", name := "meet", desc := "(II)I" } : Jvm.MethodName) ({ cls := "YoungerBack", name := "meet", desc := "(II)I" } : Jvm.MethodName)) ∈ zts := zts_r 531 (by decide +kernel) (by decide +kernel)
theorem wd_532 : (Jvm.Cond.code ({ cls := "YoungerBack", name := "meet", desc := "(II)I" } : Jvm.MethodName) prog_1_method_12_code (6 : Nat) (Option.some Jvm.ClassFile.FieldType.int)) ∈ zts := zts_r 532 (by decide +kernel) (by decide +kernel)
theorem wd_533 : (Jvm.Cond.methodLink "YoungerBack" (173 : Nat) ({ cls := "java/lang/Math", name := "max", desc := "(II)I" } : Jvm.MethodName)) ∈ zts := zts_r 533 (by decide +kernel) (by decide +kernel)
theorem wd_534 : (Jvm.Cond.methodLink "YoungerBackLaw" (66 : Nat) ({ cls := "YoungerBack", name := "borrow", desc := "(II)I" } : Jvm.MethodName)) ∈ zts := zts_r 534 (by decide +kernel) (by decide +kernel)
theorem wd_535 : (Jvm.Cond.instanceMethod ({ cls := "YoungerBack", name := "borrow", desc := "(II)I" } : Jvm.MethodName)) ∈ zts := zts_r 535 (by decide +kernel) (by decide +kernel)
theorem wd_536 : (Jvm.Cond.selects "YoungerBack" ({ cls := "YoungerBack", name := "borrow", desc := "(II)I" } : Jvm.MethodName) ({ cls := "YoungerBack", name := "borrow", desc := "(II)I" } : Jvm.MethodName)) ∈ zts := zts_r 536 (by decide +kernel) (by decide +kernel)
theorem wd_537 : (Jvm.Cond.code ({ cls := "YoungerBack", name := "borrow", desc := "(II)I" } : Jvm.MethodName) prog_1_method_13_code (5 : Nat) (Option.some Jvm.ClassFile.FieldType.int)) ∈ zts := zts_r 537 (by decide +kernel) (by decide +kernel)
theorem wd_538 : (Jvm.Cond.methodLink "YoungerBack" (181 : Nat) ({ cls := "YoungerBack$Person", name := "owedByShore", desc := "(I)I" } : Jvm.MethodName)) ∈ zts := zts_r 538 (by decide +kernel) (by decide +kernel)
theorem wd_539 : (Jvm.Cond.instanceMethod ({ cls := "YoungerBack$Person", name := "owedByShore", desc := "(I)I" } : Jvm.MethodName)) ∈ zts := zts_r 539 (by decide +kernel) (by decide +kernel)
theorem wd_540 : (Jvm.Cond.selects "YoungerBack$Person" ({ cls := "YoungerBack$Person", name := "owedByShore", desc := "(I)I" } : Jvm.MethodName) ({ cls := "YoungerBack$Person", name := "owedByShore", desc := "(I)I" } : Jvm.MethodName)) ∈ zts := zts_r 540 (by decide +kernel) (by decide +kernel)
theorem wd_541 : (Jvm.Cond.code ({ cls := "YoungerBack$Person", name := "owedByShore", desc := "(I)I" } : Jvm.MethodName) prog_6_method_10_code (2 : Nat) (Option.some Jvm.ClassFile.FieldType.int)) ∈ zts := zts_r 541 (by decide +kernel) (by decide +kernel)
theorem wd_542 : (Jvm.Cond.methodLink "YoungerBack$Person" (58 : Nat) ({ cls := "YoungerBack$Person", name := "grown", desc := "(III)I" } : Jvm.MethodName)) ∈ zts := zts_r 542 (by decide +kernel) (by decide +kernel)
theorem wd_543 : (Jvm.Cond.static ({ cls := "YoungerBack$Person", name := "grown", desc := "(III)I" } : Jvm.MethodName)) ∈ zts := zts_r 543 (by decide +kernel) (by decide +kernel)
theorem wd_544 : (Jvm.Cond.code ({ cls := "YoungerBack$Person", name := "grown", desc := "(III)I" } : Jvm.MethodName) prog_6_method_12_code (6 : Nat) (Option.some Jvm.ClassFile.FieldType.int)) ∈ zts := zts_r 544 (by decide +kernel) (by decide +kernel)
theorem wd_545 : (Jvm.Cond.constantLong "YoungerBack$Person" (62 : Nat) (100 : Int64)) ∈ zts := zts_r 545 (by decide +kernel) (by decide +kernel)
theorem wd_546 : (Jvm.Cond.constantLong "YoungerBack$Person" (64 : Nat) (99999999 : Int64)) ∈ zts := zts_r 546 (by decide +kernel) (by decide +kernel)
theorem wd_547 : (Jvm.Cond.methodLink "YoungerBack$Person" (66 : Nat) ({ cls := "java/lang/Math", name := "min", desc := "(JJ)J" } : Jvm.MethodName)) ∈ zts := zts_r 547 (by decide +kernel) (by decide +kernel)
theorem wd_548 : (Jvm.Cond.static ({ cls := "java/lang/Math", name := "min", desc := "(JJ)J" } : Jvm.MethodName)) ∈ zts := zts_r 548 (by decide +kernel) (by decide +kernel)
theorem wd_549 : (Jvm.Cond.code ({ cls := "java/lang/Math", name := "min", desc := "(JJ)J" } : Jvm.MethodName) prog_13_method_70_code (4 : Nat) (Option.some Jvm.ClassFile.FieldType.long)) ∈ zts := zts_r 549 (by decide +kernel) (by decide +kernel)
theorem wd_550 : (Jvm.Cond.methodLink "YoungerBack" (184 : Nat) ({ cls := "YoungerBack$Person", name := "takeLoan", desc := "(I)V" } : Jvm.MethodName)) ∈ zts := zts_r 550 (by decide +kernel) (by decide +kernel)
theorem wd_551 : (Jvm.Cond.instanceMethod ({ cls := "YoungerBack$Person", name := "takeLoan", desc := "(I)V" } : Jvm.MethodName)) ∈ zts := zts_r 551 (by decide +kernel) (by decide +kernel)
theorem wd_552 : (Jvm.Cond.selects "YoungerBack$Person" ({ cls := "YoungerBack$Person", name := "takeLoan", desc := "(I)V" } : Jvm.MethodName) ({ cls := "YoungerBack$Person", name := "takeLoan", desc := "(I)V" } : Jvm.MethodName)) ∈ zts := zts_r 552 (by decide +kernel) (by decide +kernel)
theorem wd_553 : (Jvm.Cond.code ({ cls := "YoungerBack$Person", name := "takeLoan", desc := "(I)V" } : Jvm.MethodName) prog_6_method_9_code (2 : Nat) (Option.none : Option Jvm.ClassFile.FieldType)) ∈ zts := zts_r 553 (by decide +kernel) (by decide +kernel)
theorem wd_554 : (Jvm.Cond.methodLink "YoungerBackLaw" (70 : Nat) ({ cls := "YoungerBack", name := "undo", desc := "()I" } : Jvm.MethodName)) ∈ zts := zts_r 554 (by decide +kernel) (by decide +kernel)
theorem wd_555 : (Jvm.Cond.instanceMethod ({ cls := "YoungerBack", name := "undo", desc := "()I" } : Jvm.MethodName)) ∈ zts := zts_r 555 (by decide +kernel) (by decide +kernel)
theorem wd_556 : (Jvm.Cond.selects "YoungerBack" ({ cls := "YoungerBack", name := "undo", desc := "()I" } : Jvm.MethodName) ({ cls := "YoungerBack", name := "undo", desc := "()I" } : Jvm.MethodName)) ∈ zts := zts_r 556 (by decide +kernel) (by decide +kernel)
theorem wd_557 : (Jvm.Cond.code ({ cls := "YoungerBack", name := "undo", desc := "()I" } : Jvm.MethodName) prog_1_method_14_code (1 : Nat) (Option.some Jvm.ClassFile.FieldType.int)) ∈ zts := zts_r 557 (by decide +kernel) (by decide +kernel)
theorem wd_558 : (Jvm.Cond.methodLink "YoungerBack" (188 : Nat) ({ cls := "YoungerBack$Acts", name := "takeBack", desc := "(LYoungerBack$League;)V" } : Jvm.MethodName)) ∈ zts := zts_r 558 (by decide +kernel) (by decide +kernel)
theorem wd_559 : (Jvm.Cond.instanceMethod ({ cls := "YoungerBack$Acts", name := "takeBack", desc := "(LYoungerBack$League;)V" } : Jvm.MethodName)) ∈ zts := zts_r 559 (by decide +kernel) (by decide +kernel)
theorem wd_560 : (Jvm.Cond.selects "YoungerBack$Acts" ({ cls := "YoungerBack$Acts", name := "takeBack", desc := "(LYoungerBack$League;)V" } : Jvm.MethodName) ({ cls := "YoungerBack$Acts", name := "takeBack", desc := "(LYoungerBack$League;)V" } : Jvm.MethodName)) ∈ zts := zts_r 560 (by decide +kernel) (by decide +kernel)
theorem wd_561 : (Jvm.Cond.code ({ cls := "YoungerBack$Acts", name := "takeBack", desc := "(LYoungerBack$League;)V" } : Jvm.MethodName) prog_2_method_4_code (4 : Nat) (Option.none : Option Jvm.ClassFile.FieldType)) ∈ zts := zts_r 561 (by decide +kernel) (by decide +kernel)
theorem wd_562 : (Jvm.Cond.methodLink "YoungerBackLaw" (74 : Nat) ({ cls := "YoungerBack", name := "person", desc := "(II)I" } : Jvm.MethodName)) ∈ zts := zts_r 562 (by decide +kernel) (by decide +kernel)
theorem wd_563 : (Jvm.Cond.instanceMethod ({ cls := "YoungerBack", name := "person", desc := "(II)I" } : Jvm.MethodName)) ∈ zts := zts_r 563 (by decide +kernel) (by decide +kernel)
theorem wd_564 : (Jvm.Cond.selects "YoungerBack" ({ cls := "YoungerBack", name := "person", desc := "(II)I" } : Jvm.MethodName) ({ cls := "YoungerBack", name := "person", desc := "(II)I" } : Jvm.MethodName)) ∈ zts := zts_r 564 (by decide +kernel) (by decide +kernel)
theorem wd_565 : (Jvm.Cond.code ({ cls := "YoungerBack", name := "person", desc := "(II)I" } : Jvm.MethodName) prog_1_method_15_code (4 : Nat) (Option.some Jvm.ClassFile.FieldType.int)) ∈ zts := zts_r 565 (by decide +kernel) (by decide +kernel)
theorem wd_566 : (Jvm.Cond.methodLink "YoungerBack" (191 : Nat) ({ cls := "YoungerBack$Person", name := "lag", desc := "()I" } : Jvm.MethodName)) ∈ zts := zts_r 566 (by decide +kernel) (by decide +kernel)
theorem wd_567 : (Jvm.Cond.instanceMethod ({ cls := "YoungerBack$Person", name := "lag", desc := "()I" } : Jvm.MethodName)) ∈ zts := zts_r 567 (by decide +kernel) (by decide +kernel)
theorem wd_568 : (Jvm.Cond.selects "YoungerBack$Person" ({ cls := "YoungerBack$Person", name := "lag", desc := "()I" } : Jvm.MethodName) ({ cls := "YoungerBack$Person", name := "lag", desc := "()I" } : Jvm.MethodName)) ∈ zts := zts_r 568 (by decide +kernel) (by decide +kernel)
theorem wd_569 : (Jvm.Cond.code ({ cls := "YoungerBack$Person", name := "lag", desc := "()I" } : Jvm.MethodName) prog_6_method_4_code (1 : Nat) (Option.some Jvm.ClassFile.FieldType.int)) ∈ zts := zts_r 569 (by decide +kernel) (by decide +kernel)
theorem wd_570 : (Jvm.Cond.methodLink "YoungerBack" (195 : Nat) ({ cls := "YoungerBack$Person", name := "owedByOwn", desc := "(I)I" } : Jvm.MethodName)) ∈ zts := zts_r 570 (by decide +kernel) (by decide +kernel)
theorem wd_571 : (Jvm.Cond.instanceMethod ({ cls := "YoungerBack$Person", name := "owedByOwn", desc := "(I)I" } : Jvm.MethodName)) ∈ zts := zts_r 571 (by decide +kernel) (by decide +kernel)
theorem wd_572 : (Jvm.Cond.selects "YoungerBack$Person" ({ cls := "YoungerBack$Person", name := "owedByOwn", desc := "(I)I" } : Jvm.MethodName) ({ cls := "YoungerBack$Person", name := "owedByOwn", desc := "(I)I" } : Jvm.MethodName)) ∈ zts := zts_r 572 (by decide +kernel) (by decide +kernel)
theorem wd_573 : (Jvm.Cond.code ({ cls := "YoungerBack$Person", name := "owedByOwn", desc := "(I)I" } : Jvm.MethodName) prog_6_method_11_code (2 : Nat) (Option.some Jvm.ClassFile.FieldType.int)) ∈ zts := zts_r 573 (by decide +kernel) (by decide +kernel)
theorem wd_574 : (Jvm.Cond.methodLink "YoungerBackLaw" (78 : Nat) ({ cls := "YoungerBack", name := "gains", desc := "(IIII)I" } : Jvm.MethodName)) ∈ zts := zts_r 574 (by decide +kernel) (by decide +kernel)
theorem wd_575 : (Jvm.Cond.instanceMethod ({ cls := "YoungerBack", name := "gains", desc := "(IIII)I" } : Jvm.MethodName)) ∈ zts := zts_r 575 (by decide +kernel) (by decide +kernel)
theorem wd_576 : (Jvm.Cond.selects "YoungerBack" ({ cls := "YoungerBack", name := "gains", desc := "(IIII)I" } : Jvm.MethodName) ({ cls := "YoungerBack", name := "gains", desc := "(IIII)I" } : Jvm.MethodName)) ∈ zts := zts_r 576 (by decide +kernel) (by decide +kernel)
theorem wd_577 : (Jvm.Cond.code ({ cls := "YoungerBack", name := "gains", desc := "(IIII)I" } : Jvm.MethodName) prog_1_method_16_code (7 : Nat) (Option.some Jvm.ClassFile.FieldType.int)) ∈ zts := zts_r 577 (by decide +kernel) (by decide +kernel)
theorem wd_578 : (Jvm.Cond.methodLink "YoungerBack" (198 : Nat) ({ cls := "YoungerBack", name := "isNoHarbour", desc := "(I)Z" } : Jvm.MethodName)) ∈ zts := zts_r 578 (by decide +kernel) (by decide +kernel)
theorem wd_580 : (Jvm.Cond.instanceMethod ({ cls := "YoungerBack", name := "isNoHarbour", desc := "(I)Z" } : Jvm.MethodName)) ∈ zts := zts_r 580 (by decide +kernel) (by decide +kernel)
theorem wd_581 : (Jvm.Cond.code ({ cls := "YoungerBack", name := "isNoHarbour", desc := "(I)Z" } : Jvm.MethodName) prog_1_method_41_code (2 : Nat) (Option.some Jvm.ClassFile.FieldType.boolean)) ∈ zts := zts_r 581 (by decide +kernel) (by decide +kernel)
theorem wd_582 : (Jvm.Cond.methodLink "YoungerBack" (201 : Nat) ({ cls := "YoungerBack$Foretold", name := "foresee", desc := "(LYoungerBack$League;LYoungerBack$Person;)V" } : Jvm.MethodName)) ∈ zts := zts_r 582 (by decide +kernel) (by decide +kernel)
theorem wd_583 : (Jvm.Cond.instanceMethod ({ cls := "YoungerBack$Foretold", name := "foresee", desc := "(LYoungerBack$League;LYoungerBack$Person;)V" } : Jvm.MethodName)) ∈ zts := zts_r 583 (by decide +kernel) (by decide +kernel)
theorem wd_584 : (Jvm.Cond.selects "YoungerBack$Foretold" ({ cls := "YoungerBack$Foretold", name := "foresee", desc := "(LYoungerBack$League;LYoungerBack$Person;)V" } : Jvm.MethodName) ({ cls := "YoungerBack$Foretold", name := "foresee", desc := "(LYoungerBack$League;LYoungerBack$Person;)V" } : Jvm.MethodName)) ∈ zts := zts_r 584 (by decide +kernel) (by decide +kernel)
theorem wd_585 : (Jvm.Cond.code ({ cls := "YoungerBack$Foretold", name := "foresee", desc := "(LYoungerBack$League;LYoungerBack$Person;)V" } : Jvm.MethodName) prog_4_method_4_code (5 : Nat) (Option.none : Option Jvm.ClassFile.FieldType)) ∈ zts := zts_r 585 (by decide +kernel) (by decide +kernel)
theorem wd_586 : (Jvm.Cond.methodLink "YoungerBack$Foretold" (19 : Nat) ({ cls := "YoungerBack$Foretold", name := "gainsAt", desc := "(II)J" } : Jvm.MethodName)) ∈ zts := zts_r 586 (by decide +kernel) (by decide +kernel)
theorem wd_587 : (Jvm.Cond.instanceMethod ({ cls := "YoungerBack$Foretold", name := "gainsAt", desc := "(II)J" } : Jvm.MethodName)) ∈ zts := zts_r 587 (by decide +kernel) (by decide +kernel)
theorem wd_588 : (Jvm.Cond.selects "YoungerBack$Foretold" ({ cls := "YoungerBack$Foretold", name := "gainsAt", desc := "(II)J" } : Jvm.MethodName) ({ cls := "YoungerBack$Foretold", name := "gainsAt", desc := "(II)J" } : Jvm.MethodName)) ∈ zts := zts_r 588 (by decide +kernel) (by decide +kernel)
theorem wd_589 : (Jvm.Cond.code ({ cls := "YoungerBack$Foretold", name := "gainsAt", desc := "(II)J" } : Jvm.MethodName) prog_4_method_2_code (3 : Nat) (Option.some Jvm.ClassFile.FieldType.long)) ∈ zts := zts_r 589 (by decide +kernel) (by decide +kernel)
theorem wd_591 : (Jvm.Cond.methodLink "YoungerBack$Foretold" (38 : Nat) ({ cls := "YoungerBack$Person", name := "maySail", desc := "(LYoungerBack$Way;)Z" } : Jvm.MethodName)) ∈ zts := zts_r 591 (by decide +kernel) (by decide +kernel)
theorem wd_592 : (Jvm.Cond.methodLink "YoungerBack$Foretold" (42 : Nat) ({ cls := "YoungerBack$Foretold", name := "arrive", desc := "(LYoungerBack$Person;LYoungerBack$Way;I)V" } : Jvm.MethodName)) ∈ zts := zts_r 592 (by decide +kernel) (by decide +kernel)
theorem wd_594 : (Jvm.Cond.instanceMethod ({ cls := "YoungerBack$Foretold", name := "arrive", desc := "(LYoungerBack$Person;LYoungerBack$Way;I)V" } : Jvm.MethodName)) ∈ zts := zts_r 594 (by decide +kernel) (by decide +kernel)
theorem wd_595 : (Jvm.Cond.code ({ cls := "YoungerBack$Foretold", name := "arrive", desc := "(LYoungerBack$Person;LYoungerBack$Way;I)V" } : Jvm.MethodName) prog_4_method_5_code (5 : Nat) (Option.none : Option Jvm.ClassFile.FieldType)) ∈ zts := zts_r 595 (by decide +kernel) (by decide +kernel)
theorem wd_596 : (Jvm.Cond.methodLink "YoungerBack$Foretold" (51 : Nat) ({ cls := "YoungerBack$Person", name := "ownYears", desc := "(LYoungerBack$Way;)I" } : Jvm.MethodName)) ∈ zts := zts_r 596 (by decide +kernel) (by decide +kernel)
theorem wd_597 : (Jvm.Cond.methodLink "YoungerBack" (205 : Nat) ({ cls := "YoungerBack$Foretold", name := "gainsAt", desc := "(II)J" } : Jvm.MethodName)) ∈ zts := zts_r 597 (by decide +kernel) (by decide +kernel)
theorem wd_598 : (Jvm.Cond.methodLink "YoungerBack" (209 : Nat) ({ cls := "java/lang/Long", name := "bitCount", desc := "(J)I" } : Jvm.MethodName)) ∈ zts := zts_r 598 (by decide +kernel) (by decide +kernel)
theorem wd_599 : (Jvm.Cond.static ({ cls := "java/lang/Long", name := "bitCount", desc := "(J)I" } : Jvm.MethodName)) ∈ zts := zts_r 599 (by decide +kernel) (by decide +kernel)
theorem wd_600 : (Jvm.Cond.code ({ cls := "java/lang/Long", name := "bitCount", desc := "(J)I" } : Jvm.MethodName) prog_12_method_50_code (2 : Nat) (Option.some Jvm.ClassFile.FieldType.int)) ∈ zts := zts_r 600 (by decide +kernel) (by decide +kernel)
theorem wd_601 : (Jvm.Cond.constantLong "java/lang/Long" (314 : Nat) (6148914691236517205 : Int64)) ∈ zts := zts_r 601 (by decide +kernel) (by decide +kernel)
theorem wd_602 : (Jvm.Cond.constantLong "java/lang/Long" (316 : Nat) (3689348814741910323 : Int64)) ∈ zts := zts_r 602 (by decide +kernel) (by decide +kernel)
theorem wd_603 : (Jvm.Cond.constantLong "java/lang/Long" (318 : Nat) (1085102592571150095 : Int64)) ∈ zts := zts_r 603 (by decide +kernel) (by decide +kernel)
theorem wd_604 : (Jvm.Cond.constant "YoungerBack" (215 : Nat) (-1000000 : Int32)) ∈ zts := zts_r 604 (by decide +kernel) (by decide +kernel)
theorem wd_605 : (Jvm.Cond.methodLink "YoungerBack" (216 : Nat) ({ cls := "java/lang/Long", name := "numberOfTrailingZeros", desc := "(J)I" } : Jvm.MethodName)) ∈ zts := zts_r 605 (by decide +kernel) (by decide +kernel)
theorem wd_606 : (Jvm.Cond.static ({ cls := "java/lang/Long", name := "numberOfTrailingZeros", desc := "(J)I" } : Jvm.MethodName)) ∈ zts := zts_r 606 (by decide +kernel) (by decide +kernel)
theorem wd_607 : (Jvm.Cond.code ({ cls := "java/lang/Long", name := "numberOfTrailingZeros", desc := "(J)I" } : Jvm.MethodName) prog_12_method_49_code (3 : Nat) (Option.some Jvm.ClassFile.FieldType.int)) ∈ zts := zts_r 607 (by decide +kernel) (by decide +kernel)
theorem wd_608 : (Jvm.Cond.methodLink "java/lang/Long" (311 : Nat) ({ cls := "java/lang/Integer", name := "numberOfTrailingZeros", desc := "(I)I" } : Jvm.MethodName)) ∈ zts := zts_r 608 (by decide +kernel) (by decide +kernel)
theorem wd_609 : (Jvm.Cond.static ({ cls := "java/lang/Integer", name := "numberOfTrailingZeros", desc := "(I)I" } : Jvm.MethodName)) ∈ zts := zts_r 609 (by decide +kernel) (by decide +kernel)
theorem wd_610 : (Jvm.Cond.code ({ cls := "java/lang/Integer", name := "numberOfTrailingZeros", desc := "(I)I" } : Jvm.MethodName) prog_11_method_48_code (2 : Nat) (Option.some Jvm.ClassFile.FieldType.int)) ∈ zts := zts_r 610 (by decide +kernel) (by decide +kernel)
theorem wd_611 : (Jvm.Cond.constant "java/lang/Integer" (264 : Nat) (65536 : Int32)) ∈ zts := zts_r 611 (by decide +kernel) (by decide +kernel)
theorem wd_612 : (Jvm.Cond.methodLink "YoungerBack" (219 : Nat) ({ cls := "java/lang/Long", name := "numberOfLeadingZeros", desc := "(J)I" } : Jvm.MethodName)) ∈ zts := zts_r 612 (by decide +kernel) (by decide +kernel)
theorem wd_613 : (Jvm.Cond.static ({ cls := "java/lang/Long", name := "numberOfLeadingZeros", desc := "(J)I" } : Jvm.MethodName)) ∈ zts := zts_r 613 (by decide +kernel) (by decide +kernel)
theorem wd_614 : (Jvm.Cond.code ({ cls := "java/lang/Long", name := "numberOfLeadingZeros", desc := "(J)I" } : Jvm.MethodName) prog_12_method_48_code (3 : Nat) (Option.some Jvm.ClassFile.FieldType.int)) ∈ zts := zts_r 614 (by decide +kernel) (by decide +kernel)
theorem wd_615 : (Jvm.Cond.methodLink "java/lang/Long" (308 : Nat) ({ cls := "java/lang/Integer", name := "numberOfLeadingZeros", desc := "(I)I" } : Jvm.MethodName)) ∈ zts := zts_r 615 (by decide +kernel) (by decide +kernel)
theorem wd_616 : (Jvm.Cond.static ({ cls := "java/lang/Integer", name := "numberOfLeadingZeros", desc := "(I)I" } : Jvm.MethodName)) ∈ zts := zts_r 616 (by decide +kernel) (by decide +kernel)
theorem wd_617 : (Jvm.Cond.code ({ cls := "java/lang/Integer", name := "numberOfLeadingZeros", desc := "(I)I" } : Jvm.MethodName) prog_11_method_47_code (2 : Nat) (Option.some Jvm.ClassFile.FieldType.int)) ∈ zts := zts_r 617 (by decide +kernel) (by decide +kernel)
theorem wd_618 : (Jvm.Cond.methodLink "YoungerBackLaw" (82 : Nat) ({ cls := "YoungerBack", name := "soonest", desc := "(III)I" } : Jvm.MethodName)) ∈ zts := zts_r 618 (by decide +kernel) (by decide +kernel)
theorem wd_619 : (Jvm.Cond.instanceMethod ({ cls := "YoungerBack", name := "soonest", desc := "(III)I" } : Jvm.MethodName)) ∈ zts := zts_r 619 (by decide +kernel) (by decide +kernel)
theorem wd_620 : (Jvm.Cond.selects "YoungerBack" ({ cls := "YoungerBack", name := "soonest", desc := "(III)I" } : Jvm.MethodName) ({ cls := "YoungerBack", name := "soonest", desc := "(III)I" } : Jvm.MethodName)) ∈ zts := zts_r 620 (by decide +kernel) (by decide +kernel)
theorem wd_621 : (Jvm.Cond.code ({ cls := "YoungerBack", name := "soonest", desc := "(III)I" } : Jvm.MethodName) prog_1_method_17_code (5 : Nat) (Option.some Jvm.ClassFile.FieldType.int)) ∈ zts := zts_r 621 (by decide +kernel) (by decide +kernel)
theorem wd_622 : (Jvm.Cond.methodLink "YoungerBack" (222 : Nat) ({ cls := "YoungerBack$Foretold", name := "hasGain", desc := "(III)Z" } : Jvm.MethodName)) ∈ zts := zts_r 622 (by decide +kernel) (by decide +kernel)
theorem wd_623 : (Jvm.Cond.instanceMethod ({ cls := "YoungerBack$Foretold", name := "hasGain", desc := "(III)Z" } : Jvm.MethodName)) ∈ zts := zts_r 623 (by decide +kernel) (by decide +kernel)
theorem wd_624 : (Jvm.Cond.selects "YoungerBack$Foretold" ({ cls := "YoungerBack$Foretold", name := "hasGain", desc := "(III)Z" } : Jvm.MethodName) ({ cls := "YoungerBack$Foretold", name := "hasGain", desc := "(III)Z" } : Jvm.MethodName)) ∈ zts := zts_r 624 (by decide +kernel) (by decide +kernel)
theorem wd_625 : (Jvm.Cond.code ({ cls := "YoungerBack$Foretold", name := "hasGain", desc := "(III)Z" } : Jvm.MethodName) prog_4_method_3_code (4 : Nat) (Option.some Jvm.ClassFile.FieldType.boolean)) ∈ zts := zts_r 625 (by decide +kernel) (by decide +kernel)
theorem wd_626 : (Jvm.Cond.methodLink "YoungerBackLaw" (86 : Nat) ({ cls := "YoungerBack", name := "voyages", desc := "(II)I" } : Jvm.MethodName)) ∈ zts := zts_r 626 (by decide +kernel) (by decide +kernel)
theorem wd_627 : (Jvm.Cond.instanceMethod ({ cls := "YoungerBack", name := "voyages", desc := "(II)I" } : Jvm.MethodName)) ∈ zts := zts_r 627 (by decide +kernel) (by decide +kernel)
theorem wd_628 : (Jvm.Cond.selects "YoungerBack" ({ cls := "YoungerBack", name := "voyages", desc := "(II)I" } : Jvm.MethodName) ({ cls := "YoungerBack", name := "voyages", desc := "(II)I" } : Jvm.MethodName)) ∈ zts := zts_r 628 (by decide +kernel) (by decide +kernel)
theorem wd_629 : (Jvm.Cond.code ({ cls := "YoungerBack", name := "voyages", desc := "(II)I" } : Jvm.MethodName) prog_1_method_18_code (6 : Nat) (Option.some Jvm.ClassFile.FieldType.int)) ∈ zts := zts_r 629 (by decide +kernel) (by decide +kernel)
theorem wd_630 : (Jvm.Cond.methodLink "YoungerBack" (225 : Nat) ({ cls := "YoungerBack$League", name := "oneVoyageMore", desc := "(LYoungerBack$Person;I)I" } : Jvm.MethodName)) ∈ zts := zts_r 630 (by decide +kernel) (by decide +kernel)
theorem wd_631 : (Jvm.Cond.instanceMethod ({ cls := "YoungerBack$League", name := "oneVoyageMore", desc := "(LYoungerBack$Person;I)I" } : Jvm.MethodName)) ∈ zts := zts_r 631 (by decide +kernel) (by decide +kernel)
theorem wd_632 : (Jvm.Cond.selects "YoungerBack$League" ({ cls := "YoungerBack$League", name := "oneVoyageMore", desc := "(LYoungerBack$Person;I)I" } : Jvm.MethodName) ({ cls := "YoungerBack$League", name := "oneVoyageMore", desc := "(LYoungerBack$Person;I)I" } : Jvm.MethodName)) ∈ zts := zts_r 632 (by decide +kernel) (by decide +kernel)
theorem wd_633 : (Jvm.Cond.code ({ cls := "YoungerBack$League", name := "oneVoyageMore", desc := "(LYoungerBack$Person;I)I" } : Jvm.MethodName) prog_5_method_3_code (7 : Nat) (Option.some Jvm.ClassFile.FieldType.int)) ∈ zts := zts_r 633 (by decide +kernel) (by decide +kernel)
theorem wd_634 : (Jvm.Cond.methodLink "YoungerBack$League" (51 : Nat) ({ cls := "YoungerBack$Person", name := "maySail", desc := "(LYoungerBack$Way;)Z" } : Jvm.MethodName)) ∈ zts := zts_r 634 (by decide +kernel) (by decide +kernel)
theorem wd_635 : (Jvm.Cond.methodLink "YoungerBackLaw" (90 : Nat) ({ cls := "YoungerBack", name := "even", desc := "(III)I" } : Jvm.MethodName)) ∈ zts := zts_r 635 (by decide +kernel) (by decide +kernel)
theorem wd_636 : (Jvm.Cond.instanceMethod ({ cls := "YoungerBack", name := "even", desc := "(III)I" } : Jvm.MethodName)) ∈ zts := zts_r 636 (by decide +kernel) (by decide +kernel)
theorem wd_637 : (Jvm.Cond.selects "YoungerBack" ({ cls := "YoungerBack", name := "even", desc := "(III)I" } : Jvm.MethodName) ({ cls := "YoungerBack", name := "even", desc := "(III)I" } : Jvm.MethodName)) ∈ zts := zts_r 637 (by decide +kernel) (by decide +kernel)
theorem wd_638 : (Jvm.Cond.code ({ cls := "YoungerBack", name := "even", desc := "(III)I" } : Jvm.MethodName) prog_1_method_19_code (13 : Nat) (Option.some Jvm.ClassFile.FieldType.int)) ∈ zts := zts_r 638 (by decide +kernel) (by decide +kernel)
theorem wd_639 : (Jvm.Cond.methodLink "YoungerBack" (229 : Nat) ({ cls := "java/lang/Math", name := "min", desc := "(II)I" } : Jvm.MethodName)) ∈ zts := zts_r 639 (by decide +kernel) (by decide +kernel)
theorem wd_640 : (Jvm.Cond.static ({ cls := "java/lang/Math", name := "min", desc := "(II)I" } : Jvm.MethodName)) ∈ zts := zts_r 640 (by decide +kernel) (by decide +kernel)
theorem wd_641 : (Jvm.Cond.code ({ cls := "java/lang/Math", name := "min", desc := "(II)I" } : Jvm.MethodName) prog_13_method_69_code (2 : Nat) (Option.some Jvm.ClassFile.FieldType.int)) ∈ zts := zts_r 641 (by decide +kernel) (by decide +kernel)
theorem wd_642 : (Jvm.Cond.methodLink "YoungerBack" (232 : Nat) ({ cls := "YoungerBack", name := "haveGainsApart", desc := "(JJI)Z" } : Jvm.MethodName)) ∈ zts := zts_r 642 (by decide +kernel) (by decide +kernel)
theorem wd_643 : (Jvm.Cond.static ({ cls := "YoungerBack", name := "haveGainsApart", desc := "(JJI)Z" } : Jvm.MethodName)) ∈ zts := zts_r 643 (by decide +kernel) (by decide +kernel)
theorem wd_644 : (Jvm.Cond.code ({ cls := "YoungerBack", name := "haveGainsApart", desc := "(JJI)Z" } : Jvm.MethodName) prog_1_method_43_code (7 : Nat) (Option.some Jvm.ClassFile.FieldType.boolean)) ∈ zts := zts_r 644 (by decide +kernel) (by decide +kernel)
theorem wd_645 : (Jvm.Cond.methodLink "YoungerBackLaw" (94 : Nat) ({ cls := "YoungerBack", name := "where", desc := "(III)I" } : Jvm.MethodName)) ∈ zts := zts_r 645 (by decide +kernel) (by decide +kernel)
theorem wd_646 : (Jvm.Cond.instanceMethod ({ cls := "YoungerBack", name := "where", desc := "(III)I" } : Jvm.MethodName)) ∈ zts := zts_r 646 (by decide +kernel) (by decide +kernel)
theorem wd_647 : (Jvm.Cond.selects "YoungerBack" ({ cls := "YoungerBack", name := "where", desc := "(III)I" } : Jvm.MethodName) ({ cls := "YoungerBack", name := "where", desc := "(III)I" } : Jvm.MethodName)) ∈ zts := zts_r 647 (by decide +kernel) (by decide +kernel)
theorem wd_648 : (Jvm.Cond.code ({ cls := "YoungerBack", name := "where", desc := "(III)I" } : Jvm.MethodName) prog_1_method_20_code (9 : Nat) (Option.some Jvm.ClassFile.FieldType.int)) ∈ zts := zts_r 648 (by decide +kernel) (by decide +kernel)
theorem wd_649 : (Jvm.Cond.methodLink "YoungerBackLaw" (98 : Nat) ({ cls := "YoungerBack", name := "gone", desc := "(I)I" } : Jvm.MethodName)) ∈ zts := zts_r 649 (by decide +kernel) (by decide +kernel)
theorem wd_650 : (Jvm.Cond.instanceMethod ({ cls := "YoungerBack", name := "gone", desc := "(I)I" } : Jvm.MethodName)) ∈ zts := zts_r 650 (by decide +kernel) (by decide +kernel)
theorem wd_651 : (Jvm.Cond.selects "YoungerBack" ({ cls := "YoungerBack", name := "gone", desc := "(I)I" } : Jvm.MethodName) ({ cls := "YoungerBack", name := "gone", desc := "(I)I" } : Jvm.MethodName)) ∈ zts := zts_r 651 (by decide +kernel) (by decide +kernel)
theorem wd_652 : (Jvm.Cond.code ({ cls := "YoungerBack", name := "gone", desc := "(I)I" } : Jvm.MethodName) prog_1_method_21_code (3 : Nat) (Option.some Jvm.ClassFile.FieldType.int)) ∈ zts := zts_r 652 (by decide +kernel) (by decide +kernel)
theorem wd_653 : (Jvm.Cond.methodLink "YoungerBackLaw" (102 : Nat) ({ cls := "YoungerBack", name := "eldest", desc := "(I)I" } : Jvm.MethodName)) ∈ zts := zts_r 653 (by decide +kernel) (by decide +kernel)
theorem wd_654 : (Jvm.Cond.instanceMethod ({ cls := "YoungerBack", name := "eldest", desc := "(I)I" } : Jvm.MethodName)) ∈ zts := zts_r 654 (by decide +kernel) (by decide +kernel)
theorem wd_655 : (Jvm.Cond.selects "YoungerBack" ({ cls := "YoungerBack", name := "eldest", desc := "(I)I" } : Jvm.MethodName) ({ cls := "YoungerBack", name := "eldest", desc := "(I)I" } : Jvm.MethodName)) ∈ zts := zts_r 655 (by decide +kernel) (by decide +kernel)
theorem wd_656 : (Jvm.Cond.code ({ cls := "YoungerBack", name := "eldest", desc := "(I)I" } : Jvm.MethodName) prog_1_method_22_code (6 : Nat) (Option.some Jvm.ClassFile.FieldType.int)) ∈ zts := zts_r 656 (by decide +kernel) (by decide +kernel)
theorem wd_657 : (Jvm.Cond.methodLink "YoungerBackLaw" (106 : Nat) ({ cls := "YoungerBack", name := "image", desc := "(I)I" } : Jvm.MethodName)) ∈ zts := zts_r 657 (by decide +kernel) (by decide +kernel)
theorem wd_658 : (Jvm.Cond.instanceMethod ({ cls := "YoungerBack", name := "image", desc := "(I)I" } : Jvm.MethodName)) ∈ zts := zts_r 658 (by decide +kernel) (by decide +kernel)
theorem wd_659 : (Jvm.Cond.selects "YoungerBack" ({ cls := "YoungerBack", name := "image", desc := "(I)I" } : Jvm.MethodName) ({ cls := "YoungerBack", name := "image", desc := "(I)I" } : Jvm.MethodName)) ∈ zts := zts_r 659 (by decide +kernel) (by decide +kernel)
theorem wd_660 : (Jvm.Cond.code ({ cls := "YoungerBack", name := "image", desc := "(I)I" } : Jvm.MethodName) prog_1_method_23_code (2 : Nat) (Option.some Jvm.ClassFile.FieldType.int)) ∈ zts := zts_r 660 (by decide +kernel) (by decide +kernel)
theorem wd_661 : (Jvm.Cond.methodLink "YoungerBackLaw" (110 : Nat) ({ cls := "YoungerBack", name := "restore", desc := "(I)I" } : Jvm.MethodName)) ∈ zts := zts_r 661 (by decide +kernel) (by decide +kernel)
theorem wd_662 : (Jvm.Cond.instanceMethod ({ cls := "YoungerBack", name := "restore", desc := "(I)I" } : Jvm.MethodName)) ∈ zts := zts_r 662 (by decide +kernel) (by decide +kernel)
theorem wd_663 : (Jvm.Cond.selects "YoungerBack" ({ cls := "YoungerBack", name := "restore", desc := "(I)I" } : Jvm.MethodName) ({ cls := "YoungerBack", name := "restore", desc := "(I)I" } : Jvm.MethodName)) ∈ zts := zts_r 663 (by decide +kernel) (by decide +kernel)
theorem wd_664 : (Jvm.Cond.code ({ cls := "YoungerBack", name := "restore", desc := "(I)I" } : Jvm.MethodName) prog_1_method_24_code (2 : Nat) (Option.some Jvm.ClassFile.FieldType.int)) ∈ zts := zts_r 664 (by decide +kernel) (by decide +kernel)
theorem wd_665 : (Jvm.Cond.methodLink "YoungerBackLaw" (114 : Nat) ({ cls := "YoungerBack", name := "kind", desc := "(I)I" } : Jvm.MethodName)) ∈ zts := zts_r 665 (by decide +kernel) (by decide +kernel)
theorem wd_666 : (Jvm.Cond.instanceMethod ({ cls := "YoungerBack", name := "kind", desc := "(I)I" } : Jvm.MethodName)) ∈ zts := zts_r 666 (by decide +kernel) (by decide +kernel)
theorem wd_667 : (Jvm.Cond.selects "YoungerBack" ({ cls := "YoungerBack", name := "kind", desc := "(I)I" } : Jvm.MethodName) ({ cls := "YoungerBack", name := "kind", desc := "(I)I" } : Jvm.MethodName)) ∈ zts := zts_r 667 (by decide +kernel) (by decide +kernel)
theorem wd_668 : (Jvm.Cond.code ({ cls := "YoungerBack", name := "kind", desc := "(I)I" } : Jvm.MethodName) prog_1_method_25_code (2 : Nat) (Option.some Jvm.ClassFile.FieldType.int)) ∈ zts := zts_r 668 (by decide +kernel) (by decide +kernel)
theorem wd_669 : (Jvm.Cond.methodLink "YoungerBackLaw" (118 : Nat) ({ cls := "YoungerBack", name := "as", desc := "(II)I" } : Jvm.MethodName)) ∈ zts := zts_r 669 (by decide +kernel) (by decide +kernel)
theorem wd_670 : (Jvm.Cond.instanceMethod ({ cls := "YoungerBack", name := "as", desc := "(II)I" } : Jvm.MethodName)) ∈ zts := zts_r 670 (by decide +kernel) (by decide +kernel)
theorem wd_671 : (Jvm.Cond.selects "YoungerBack" ({ cls := "YoungerBack", name := "as", desc := "(II)I" } : Jvm.MethodName) ({ cls := "YoungerBack", name := "as", desc := "(II)I" } : Jvm.MethodName)) ∈ zts := zts_r 671 (by decide +kernel) (by decide +kernel)
theorem wd_672 : (Jvm.Cond.code ({ cls := "YoungerBack", name := "as", desc := "(II)I" } : Jvm.MethodName) prog_1_method_26_code (3 : Nat) (Option.some Jvm.ClassFile.FieldType.int)) ∈ zts := zts_r 672 (by decide +kernel) (by decide +kernel)
theorem wd_673 : (Jvm.Cond.methodLink "YoungerBack" (245 : Nat) ({ cls := "YoungerBack", name := "isOfKind", desc := "(II)Z" } : Jvm.MethodName)) ∈ zts := zts_r 673 (by decide +kernel) (by decide +kernel)
theorem wd_674 : (Jvm.Cond.static ({ cls := "YoungerBack", name := "isOfKind", desc := "(II)Z" } : Jvm.MethodName)) ∈ zts := zts_r 674 (by decide +kernel) (by decide +kernel)
theorem wd_675 : (Jvm.Cond.code ({ cls := "YoungerBack", name := "isOfKind", desc := "(II)Z" } : Jvm.MethodName) prog_1_method_44_code (2 : Nat) (Option.some Jvm.ClassFile.FieldType.boolean)) ∈ zts := zts_r 675 (by decide +kernel) (by decide +kernel)
theorem wd_676 : (Jvm.Cond.methodLink "YoungerBack" (288 : Nat) ({ cls := "YoungerBack", name := "nearestKind", desc := "(I)I" } : Jvm.MethodName)) ∈ zts := zts_r 676 (by decide +kernel) (by decide +kernel)
theorem wd_677 : (Jvm.Cond.static ({ cls := "YoungerBack", name := "nearestKind", desc := "(I)I" } : Jvm.MethodName)) ∈ zts := zts_r 677 (by decide +kernel) (by decide +kernel)
theorem wd_678 : (Jvm.Cond.code ({ cls := "YoungerBack", name := "nearestKind", desc := "(I)I" } : Jvm.MethodName) prog_1_method_45_code (1 : Nat) (Option.some Jvm.ClassFile.FieldType.int)) ∈ zts := zts_r 678 (by decide +kernel) (by decide +kernel)
theorem wd_679 : (Jvm.Cond.methodLink "YoungerBackLaw" (122 : Nat) ({ cls := "YoungerBack", name := "ask", desc := "(II)I" } : Jvm.MethodName)) ∈ zts := zts_r 679 (by decide +kernel) (by decide +kernel)
theorem wd_680 : (Jvm.Cond.instanceMethod ({ cls := "YoungerBack", name := "ask", desc := "(II)I" } : Jvm.MethodName)) ∈ zts := zts_r 680 (by decide +kernel) (by decide +kernel)
theorem wd_681 : (Jvm.Cond.selects "YoungerBack" ({ cls := "YoungerBack", name := "ask", desc := "(II)I" } : Jvm.MethodName) ({ cls := "YoungerBack", name := "ask", desc := "(II)I" } : Jvm.MethodName)) ∈ zts := zts_r 681 (by decide +kernel) (by decide +kernel)
theorem wd_682 : (Jvm.Cond.code ({ cls := "YoungerBack", name := "ask", desc := "(II)I" } : Jvm.MethodName) prog_1_method_27_code (4 : Nat) (Option.some Jvm.ClassFile.FieldType.int)) ∈ zts := zts_r 682 (by decide +kernel) (by decide +kernel)
theorem wd_683 : (Jvm.Cond.methodLink "YoungerBack" (252 : Nat) ({ cls := "YoungerBack$Asking", name := "size", desc := "(LYoungerBack$Person;I)I" } : Jvm.MethodName)) ∈ zts := zts_r 683 (by decide +kernel) (by decide +kernel)
theorem wd_684 : (Jvm.Cond.instanceMethod ({ cls := "YoungerBack$Asking", name := "size", desc := "(LYoungerBack$Person;I)I" } : Jvm.MethodName)) ∈ zts := zts_r 684 (by decide +kernel) (by decide +kernel)
theorem wd_685 : (Jvm.Cond.selects "YoungerBack$Asking" ({ cls := "YoungerBack$Asking", name := "size", desc := "(LYoungerBack$Person;I)I" } : Jvm.MethodName) ({ cls := "YoungerBack$Asking", name := "size", desc := "(LYoungerBack$Person;I)I" } : Jvm.MethodName)) ∈ zts := zts_r 685 (by decide +kernel) (by decide +kernel)
theorem wd_686 : (Jvm.Cond.code ({ cls := "YoungerBack$Asking", name := "size", desc := "(LYoungerBack$Person;I)I" } : Jvm.MethodName) prog_3_method_3_code (3 : Nat) (Option.some Jvm.ClassFile.FieldType.int)) ∈ zts := zts_r 686 (by decide +kernel) (by decide +kernel)
theorem wd_687 : (Jvm.Cond.methodLink "YoungerBack$Asking" (24 : Nat) ({ cls := "YoungerBack$Asking", name := "begin", desc := "(I)V" } : Jvm.MethodName)) ∈ zts := zts_r 687 (by decide +kernel) (by decide +kernel)
theorem wd_689 : (Jvm.Cond.instanceMethod ({ cls := "YoungerBack$Asking", name := "begin", desc := "(I)V" } : Jvm.MethodName)) ∈ zts := zts_r 689 (by decide +kernel) (by decide +kernel)
theorem wd_690 : (Jvm.Cond.code ({ cls := "YoungerBack$Asking", name := "begin", desc := "(I)V" } : Jvm.MethodName) prog_3_method_2_code (2 : Nat) (Option.none : Option Jvm.ClassFile.FieldType)) ∈ zts := zts_r 690 (by decide +kernel) (by decide +kernel)
theorem wd_691 : (Jvm.Cond.methodLink "YoungerBack$Asking" (28 : Nat) ({ cls := "YoungerBack$Asking", name := "sizeOfCaptain", desc := "(LYoungerBack$Person;I)I" } : Jvm.MethodName)) ∈ zts := zts_r 691 (by decide +kernel) (by decide +kernel)
theorem wd_693 : (Jvm.Cond.instanceMethod ({ cls := "YoungerBack$Asking", name := "sizeOfCaptain", desc := "(LYoungerBack$Person;I)I" } : Jvm.MethodName)) ∈ zts := zts_r 693 (by decide +kernel) (by decide +kernel)
theorem wd_694 : (Jvm.Cond.code ({ cls := "YoungerBack$Asking", name := "sizeOfCaptain", desc := "(LYoungerBack$Person;I)I" } : Jvm.MethodName) prog_3_method_7_code (4 : Nat) (Option.some Jvm.ClassFile.FieldType.int)) ∈ zts := zts_r 694 (by decide +kernel) (by decide +kernel)
theorem wd_695 : (Jvm.Cond.methodLink "YoungerBack$Asking" (56 : Nat) ({ cls := "YoungerBack$Asking", name := "lentSize", desc := "(LYoungerBack$Person;)I" } : Jvm.MethodName)) ∈ zts := zts_r 695 (by decide +kernel) (by decide +kernel)
theorem wd_697 : (Jvm.Cond.instanceMethod ({ cls := "YoungerBack$Asking", name := "lentSize", desc := "(LYoungerBack$Person;)I" } : Jvm.MethodName)) ∈ zts := zts_r 697 (by decide +kernel) (by decide +kernel)
theorem wd_698 : (Jvm.Cond.code ({ cls := "YoungerBack$Asking", name := "lentSize", desc := "(LYoungerBack$Person;)I" } : Jvm.MethodName) prog_3_method_6_code (2 : Nat) (Option.some Jvm.ClassFile.FieldType.int)) ∈ zts := zts_r 698 (by decide +kernel) (by decide +kernel)
theorem wd_699 : (Jvm.Cond.methodLink "YoungerBack$Asking" (40 : Nat) ({ cls := "YoungerBack$Asking", name := "markAmongCaptains", desc := "(LYoungerBack$Person;I)I" } : Jvm.MethodName)) ∈ zts := zts_r 699 (by decide +kernel) (by decide +kernel)
theorem wd_701 : (Jvm.Cond.instanceMethod ({ cls := "YoungerBack$Asking", name := "markAmongCaptains", desc := "(LYoungerBack$Person;I)I" } : Jvm.MethodName)) ∈ zts := zts_r 701 (by decide +kernel) (by decide +kernel)
theorem wd_702 : (Jvm.Cond.code ({ cls := "YoungerBack$Asking", name := "markAmongCaptains", desc := "(LYoungerBack$Person;I)I" } : Jvm.MethodName) prog_3_method_5_code (3 : Nat) (Option.some Jvm.ClassFile.FieldType.int)) ∈ zts := zts_r 702 (by decide +kernel) (by decide +kernel)
theorem wd_703 : (Jvm.Cond.methodLink "YoungerBack$Asking" (50 : Nat) ({ cls := "YoungerBack$Asking", name := "markOfCaptain", desc := "(LYoungerBack$Person;I)I" } : Jvm.MethodName)) ∈ zts := zts_r 703 (by decide +kernel) (by decide +kernel)
theorem wd_705 : (Jvm.Cond.instanceMethod ({ cls := "YoungerBack$Asking", name := "markOfCaptain", desc := "(LYoungerBack$Person;I)I" } : Jvm.MethodName)) ∈ zts := zts_r 705 (by decide +kernel) (by decide +kernel)
theorem wd_706 : (Jvm.Cond.code ({ cls := "YoungerBack$Asking", name := "markOfCaptain", desc := "(LYoungerBack$Person;I)I" } : Jvm.MethodName) prog_3_method_10_code (3 : Nat) (Option.some Jvm.ClassFile.FieldType.int)) ∈ zts := zts_r 706 (by decide +kernel) (by decide +kernel)
theorem wd_707 : (Jvm.Cond.methodLink "YoungerBack$Asking" (43 : Nat) ({ cls := "YoungerBack$Asking", name := "lentMark", desc := "(I)I" } : Jvm.MethodName)) ∈ zts := zts_r 707 (by decide +kernel) (by decide +kernel)
theorem wd_709 : (Jvm.Cond.instanceMethod ({ cls := "YoungerBack$Asking", name := "lentMark", desc := "(I)I" } : Jvm.MethodName)) ∈ zts := zts_r 709 (by decide +kernel) (by decide +kernel)
theorem wd_710 : (Jvm.Cond.code ({ cls := "YoungerBack$Asking", name := "lentMark", desc := "(I)I" } : Jvm.MethodName) prog_3_method_9_code (2 : Nat) (Option.some Jvm.ClassFile.FieldType.int)) ∈ zts := zts_r 710 (by decide +kernel) (by decide +kernel)
theorem wd_711 : (Jvm.Cond.methodLink "YoungerBack$Asking" (32 : Nat) ({ cls := "YoungerBack$Asking", name := "sizeOfClerk", desc := "(LYoungerBack$Person;)I" } : Jvm.MethodName)) ∈ zts := zts_r 711 (by decide +kernel) (by decide +kernel)
theorem wd_713 : (Jvm.Cond.instanceMethod ({ cls := "YoungerBack$Asking", name := "sizeOfClerk", desc := "(LYoungerBack$Person;)I" } : Jvm.MethodName)) ∈ zts := zts_r 713 (by decide +kernel) (by decide +kernel)
theorem wd_714 : (Jvm.Cond.code ({ cls := "YoungerBack$Asking", name := "sizeOfClerk", desc := "(LYoungerBack$Person;)I" } : Jvm.MethodName) prog_3_method_8_code (2 : Nat) (Option.some Jvm.ClassFile.FieldType.int)) ∈ zts := zts_r 714 (by decide +kernel) (by decide +kernel)
theorem wd_715 : (Jvm.Cond.methodLink "YoungerBack" (255 : Nat) ({ cls := "YoungerBack$Asking", name := "mark", desc := "(LYoungerBack$Person;I)I" } : Jvm.MethodName)) ∈ zts := zts_r 715 (by decide +kernel) (by decide +kernel)
theorem wd_716 : (Jvm.Cond.instanceMethod ({ cls := "YoungerBack$Asking", name := "mark", desc := "(LYoungerBack$Person;I)I" } : Jvm.MethodName)) ∈ zts := zts_r 716 (by decide +kernel) (by decide +kernel)
theorem wd_717 : (Jvm.Cond.selects "YoungerBack$Asking" ({ cls := "YoungerBack$Asking", name := "mark", desc := "(LYoungerBack$Person;I)I" } : Jvm.MethodName) ({ cls := "YoungerBack$Asking", name := "mark", desc := "(LYoungerBack$Person;I)I" } : Jvm.MethodName)) ∈ zts := zts_r 717 (by decide +kernel) (by decide +kernel)
theorem wd_718 : (Jvm.Cond.code ({ cls := "YoungerBack$Asking", name := "mark", desc := "(LYoungerBack$Person;I)I" } : Jvm.MethodName) prog_3_method_4_code (4 : Nat) (Option.some Jvm.ClassFile.FieldType.int)) ∈ zts := zts_r 718 (by decide +kernel) (by decide +kernel)
theorem wd_720 : (Jvm.Cond.methodLink "YoungerBack$Asking" (47 : Nat) ({ cls := "YoungerBack$Asking", name := "size", desc := "(LYoungerBack$Person;I)I" } : Jvm.MethodName)) ∈ zts := zts_r 720 (by decide +kernel) (by decide +kernel)
theorem wd_721 : (Jvm.Cond.methodLink "YoungerBackLaw" (126 : Nat) ({ cls := "YoungerBack", name := "trace", desc := "(I)I" } : Jvm.MethodName)) ∈ zts := zts_r 721 (by decide +kernel) (by decide +kernel)
theorem wd_722 : (Jvm.Cond.instanceMethod ({ cls := "YoungerBack", name := "trace", desc := "(I)I" } : Jvm.MethodName)) ∈ zts := zts_r 722 (by decide +kernel) (by decide +kernel)
theorem wd_723 : (Jvm.Cond.selects "YoungerBack" ({ cls := "YoungerBack", name := "trace", desc := "(I)I" } : Jvm.MethodName) ({ cls := "YoungerBack", name := "trace", desc := "(I)I" } : Jvm.MethodName)) ∈ zts := zts_r 723 (by decide +kernel) (by decide +kernel)
theorem wd_724 : (Jvm.Cond.code ({ cls := "YoungerBack", name := "trace", desc := "(I)I" } : Jvm.MethodName) prog_1_method_28_code (2 : Nat) (Option.some Jvm.ClassFile.FieldType.int)) ∈ zts := zts_r 724 (by decide +kernel) (by decide +kernel)
theorem wd_725 : (Jvm.Cond.methodLink "YoungerBackLaw" (130 : Nat) ({ cls := "YoungerBack", name := "count", desc := "(I)I" } : Jvm.MethodName)) ∈ zts := zts_r 725 (by decide +kernel) (by decide +kernel)
theorem wd_726 : (Jvm.Cond.instanceMethod ({ cls := "YoungerBack", name := "count", desc := "(I)I" } : Jvm.MethodName)) ∈ zts := zts_r 726 (by decide +kernel) (by decide +kernel)
theorem wd_727 : (Jvm.Cond.selects "YoungerBack" ({ cls := "YoungerBack", name := "count", desc := "(I)I" } : Jvm.MethodName) ({ cls := "YoungerBack", name := "count", desc := "(I)I" } : Jvm.MethodName)) ∈ zts := zts_r 727 (by decide +kernel) (by decide +kernel)
theorem wd_728 : (Jvm.Cond.code ({ cls := "YoungerBack", name := "count", desc := "(I)I" } : Jvm.MethodName) prog_1_method_29_code (2 : Nat) (Option.some Jvm.ClassFile.FieldType.int)) ∈ zts := zts_r 728 (by decide +kernel) (by decide +kernel)
theorem wd_729 : (Jvm.Cond.methodLink "YoungerBack" (261 : Nat) ({ cls := "YoungerBack", name := "rowsThere", desc := "()I" } : Jvm.MethodName)) ∈ zts := zts_r 729 (by decide +kernel) (by decide +kernel)
theorem wd_731 : (Jvm.Cond.instanceMethod ({ cls := "YoungerBack", name := "rowsThere", desc := "()I" } : Jvm.MethodName)) ∈ zts := zts_r 731 (by decide +kernel) (by decide +kernel)
theorem wd_732 : (Jvm.Cond.code ({ cls := "YoungerBack", name := "rowsThere", desc := "()I" } : Jvm.MethodName) prog_1_method_38_code (3 : Nat) (Option.some Jvm.ClassFile.FieldType.int)) ∈ zts := zts_r 732 (by decide +kernel) (by decide +kernel)
theorem wd_733 : (Jvm.Cond.methodLink "YoungerBackLaw" (134 : Nat) ({ cls := "YoungerBack", name := "status", desc := "()I" } : Jvm.MethodName)) ∈ zts := zts_r 733 (by decide +kernel) (by decide +kernel)
theorem wd_734 : (Jvm.Cond.instanceMethod ({ cls := "YoungerBack", name := "status", desc := "()I" } : Jvm.MethodName)) ∈ zts := zts_r 734 (by decide +kernel) (by decide +kernel)
theorem wd_735 : (Jvm.Cond.selects "YoungerBack" ({ cls := "YoungerBack", name := "status", desc := "()I" } : Jvm.MethodName) ({ cls := "YoungerBack", name := "status", desc := "()I" } : Jvm.MethodName)) ∈ zts := zts_r 735 (by decide +kernel) (by decide +kernel)
theorem wd_736 : (Jvm.Cond.code ({ cls := "YoungerBack", name := "status", desc := "()I" } : Jvm.MethodName) prog_1_method_30_code (1 : Nat) (Option.some Jvm.ClassFile.FieldType.int)) ∈ zts := zts_r 736 (by decide +kernel) (by decide +kernel)
theorem wd_737 : (Jvm.Cond.classLink "YoungerBackLaw" (10 : Nat) "YoungerBackModel") ∈ zts := zts_r 737 (by decide +kernel) (by decide +kernel)
theorem wd_738 : (Jvm.Cond.instantiable "YoungerBackModel" (25 : Nat)) ∈ zts := zts_r 738 (by decide +kernel) (by decide +kernel)
theorem wd_739 : (Jvm.Cond.methodLink "YoungerBackLaw" (12 : Nat) ({ cls := "YoungerBackModel", name := "<init>", desc := "()V" } : Jvm.MethodName)) ∈ zts := zts_r 739 (by decide +kernel) (by decide +kernel)
theorem wd_740 : (Jvm.Cond.instanceMethod ({ cls := "YoungerBackModel", name := "<init>", desc := "()V" } : Jvm.MethodName)) ∈ zts := zts_r 740 (by decide +kernel) (by decide +kernel)
theorem wd_741 : (Jvm.Cond.code ({ cls := "YoungerBackModel", name := "<init>", desc := "()V" } : Jvm.MethodName) prog_10_method_1_code (1 : Nat) (Option.none : Option Jvm.ClassFile.FieldType)) ∈ zts := zts_r 741 (by decide +kernel) (by decide +kernel)
theorem wd_742 : (Jvm.Cond.methodLink "YoungerBackModel" (1 : Nat) ({ cls := "java/lang/Object", name := "<init>", desc := "()V" } : Jvm.MethodName)) ∈ zts := zts_r 742 (by decide +kernel) (by decide +kernel)
theorem wd_743 : (Jvm.Cond.fieldLink "YoungerBackModel" (48 : Nat) "YoungerBackModel" "thrown" "I") ∈ zts := zts_r 743 (by decide +kernel) (by decide +kernel)
theorem wd_744 : (Jvm.Cond.fieldLink "YoungerBackModel" (52 : Nat) "YoungerBackModel" "status" "I") ∈ zts := zts_r 744 (by decide +kernel) (by decide +kernel)
theorem wd_745 : (Jvm.Cond.fieldLink "YoungerBackModel" (7 : Nat) "YoungerBackModel" "lane" "[I") ∈ zts := zts_r 745 (by decide +kernel) (by decide +kernel)
theorem wd_746 : (Jvm.Cond.fieldLink "YoungerBackModel" (13 : Nat) "YoungerBackModel" "many" "[I") ∈ zts := zts_r 746 (by decide +kernel) (by decide +kernel)
theorem wd_747 : (Jvm.Cond.fieldLink "YoungerBackModel" (16 : Nat) "YoungerBackModel" "item" "[I") ∈ zts := zts_r 747 (by decide +kernel) (by decide +kernel)
theorem wd_748 : (Jvm.Cond.fieldLink "YoungerBackModel" (19 : Nat) "YoungerBackModel" "league" "[I") ∈ zts := zts_r 748 (by decide +kernel) (by decide +kernel)
theorem wd_749 : (Jvm.Cond.fieldLink "YoungerBackModel" (22 : Nat) "YoungerBackModel" "fresh" "[I") ∈ zts := zts_r 749 (by decide +kernel) (by decide +kernel)
theorem wd_750 : (Jvm.Cond.fieldLink "YoungerBackModel" (25 : Nat) "YoungerBackModel" "was" "[I") ∈ zts := zts_r 750 (by decide +kernel) (by decide +kernel)
theorem wd_751 : (Jvm.Cond.fieldLink "YoungerBackModel" (175 : Nat) "YoungerBackModel" "acts" "I") ∈ zts := zts_r 751 (by decide +kernel) (by decide +kernel)
theorem wd_752 : (Jvm.Cond.fieldLink "YoungerBackModel" (28 : Nat) "YoungerBackModel" "tape" "[I") ∈ zts := zts_r 752 (by decide +kernel) (by decide +kernel)
theorem wd_753 : (Jvm.Cond.fieldLink "YoungerBackModel" (75 : Nat) "YoungerBackModel" "taped" "I") ∈ zts := zts_r 753 (by decide +kernel) (by decide +kernel)
theorem wd_754 : (Jvm.Cond.fieldLink "YoungerBackModel" (171 : Nat) "YoungerBackModel" "latest" "I") ∈ zts := zts_r 754 (by decide +kernel) (by decide +kernel)
theorem wd_755 : (Jvm.Cond.fieldLink "YoungerBackModel" (81 : Nat) "YoungerBackModel" "length" "I") ∈ zts := zts_r 755 (by decide +kernel) (by decide +kernel)
theorem wd_756 : (Jvm.Cond.fieldLink "YoungerBackModel" (85 : Nat) "YoungerBackModel" "cursor" "I") ∈ zts := zts_r 756 (by decide +kernel) (by decide +kernel)
theorem wd_757 : (Jvm.Cond.fieldLink "YoungerBackModel" (94 : Nat) "YoungerBackModel" "token" "I") ∈ zts := zts_r 757 (by decide +kernel) (by decide +kernel)
theorem wd_758 : (Jvm.Cond.fieldLink "YoungerBackModel" (91 : Nat) "YoungerBackModel" "start" "I") ∈ zts := zts_r 758 (by decide +kernel) (by decide +kernel)
theorem wd_759 : (Jvm.Cond.fieldLink "YoungerBackModel" (103 : Nat) "YoungerBackModel" "till" "I") ∈ zts := zts_r 759 (by decide +kernel) (by decide +kernel)
theorem wd_760 : (Jvm.Cond.fieldLink "YoungerBackModel" (106 : Nat) "YoungerBackModel" "fault" "I") ∈ zts := zts_r 760 (by decide +kernel) (by decide +kernel)
theorem wd_761 : (Jvm.Cond.fieldLink "YoungerBackModel" (112 : Nat) "YoungerBackModel" "faultAt" "I") ∈ zts := zts_r 761 (by decide +kernel) (by decide +kernel)
theorem wd_762 : (Jvm.Cond.fieldLink "YoungerBackModel" (31 : Nat) "YoungerBackModel" "gained" "[J") ∈ zts := zts_r 762 (by decide +kernel) (by decide +kernel)
theorem wd_763 : (Jvm.Cond.fieldLink "YoungerBackModel" (35 : Nat) "YoungerBackModel" "others" "[J") ∈ zts := zts_r 763 (by decide +kernel) (by decide +kernel)
theorem wd_764 : (Jvm.Cond.fieldLink "YoungerBackModel" (38 : Nat) "YoungerBackModel" "isKept" "[Z") ∈ zts := zts_r 764 (by decide +kernel) (by decide +kernel)
theorem wd_765 : (Jvm.Cond.fieldLink "YoungerBackModel" (42 : Nat) "YoungerBackModel" "kept" "[I") ∈ zts := zts_r 765 (by decide +kernel) (by decide +kernel)
theorem wd_766 : (Jvm.Cond.fieldLink "YoungerBackModel" (45 : Nat) "YoungerBackModel" "trace" "[I") ∈ zts := zts_r 766 (by decide +kernel) (by decide +kernel)
theorem wd_767 : (Jvm.Cond.fieldLink "YoungerBackModel" (243 : Nat) "YoungerBackModel" "traced" "I") ∈ zts := zts_r 767 (by decide +kernel) (by decide +kernel)
theorem wd_768 : (Jvm.Cond.lays "YoungerBackModel" "YoungerBackModel" "thrown" "I") ∈ zts := zts_r 768 (by decide +kernel) (by decide +kernel)
theorem wd_770 : (Jvm.Cond.lays "YoungerBackModel" "YoungerBackModel" "status" "I") ∈ zts := zts_r 770 (by decide +kernel) (by decide +kernel)
theorem wd_772 : (Jvm.Cond.laysFinal "YoungerBackModel" "YoungerBackModel" "lane" "[I") ∈ zts := zts_r 772 (by decide +kernel) (by decide +kernel)
theorem wd_774 : (Jvm.Cond.laysFinal "YoungerBackModel" "YoungerBackModel" "many" "[I") ∈ zts := zts_r 774 (by decide +kernel) (by decide +kernel)
theorem wd_776 : (Jvm.Cond.laysFinal "YoungerBackModel" "YoungerBackModel" "item" "[I") ∈ zts := zts_r 776 (by decide +kernel) (by decide +kernel)
theorem wd_778 : (Jvm.Cond.laysFinal "YoungerBackModel" "YoungerBackModel" "league" "[I") ∈ zts := zts_r 778 (by decide +kernel) (by decide +kernel)
theorem wd_780 : (Jvm.Cond.laysFinal "YoungerBackModel" "YoungerBackModel" "fresh" "[I") ∈ zts := zts_r 780 (by decide +kernel) (by decide +kernel)
theorem wd_782 : (Jvm.Cond.laysFinal "YoungerBackModel" "YoungerBackModel" "was" "[I") ∈ zts := zts_r 782 (by decide +kernel) (by decide +kernel)
theorem wd_784 : (Jvm.Cond.lays "YoungerBackModel" "YoungerBackModel" "acts" "I") ∈ zts := zts_r 784 (by decide +kernel) (by decide +kernel)
theorem wd_786 : (Jvm.Cond.laysFinal "YoungerBackModel" "YoungerBackModel" "tape" "[I") ∈ zts := zts_r 786 (by decide +kernel) (by decide +kernel)
theorem wd_788 : (Jvm.Cond.lays "YoungerBackModel" "YoungerBackModel" "taped" "I") ∈ zts := zts_r 788 (by decide +kernel) (by decide +kernel)
theorem wd_790 : (Jvm.Cond.lays "YoungerBackModel" "YoungerBackModel" "latest" "I") ∈ zts := zts_r 790 (by decide +kernel) (by decide +kernel)
theorem wd_792 : (Jvm.Cond.lays "YoungerBackModel" "YoungerBackModel" "length" "I") ∈ zts := zts_r 792 (by decide +kernel) (by decide +kernel)
theorem wd_794 : (Jvm.Cond.lays "YoungerBackModel" "YoungerBackModel" "cursor" "I") ∈ zts := zts_r 794 (by decide +kernel) (by decide +kernel)
theorem wd_796 : (Jvm.Cond.lays "YoungerBackModel" "YoungerBackModel" "token" "I") ∈ zts := zts_r 796 (by decide +kernel) (by decide +kernel)
theorem wd_798 : (Jvm.Cond.lays "YoungerBackModel" "YoungerBackModel" "start" "I") ∈ zts := zts_r 798 (by decide +kernel) (by decide +kernel)
theorem wd_800 : (Jvm.Cond.lays "YoungerBackModel" "YoungerBackModel" "till" "I") ∈ zts := zts_r 800 (by decide +kernel) (by decide +kernel)
theorem wd_802 : (Jvm.Cond.lays "YoungerBackModel" "YoungerBackModel" "fault" "I") ∈ zts := zts_r 802 (by decide +kernel) (by decide +kernel)
theorem wd_804 : (Jvm.Cond.lays "YoungerBackModel" "YoungerBackModel" "faultAt" "I") ∈ zts := zts_r 804 (by decide +kernel) (by decide +kernel)
theorem wd_806 : (Jvm.Cond.laysFinal "YoungerBackModel" "YoungerBackModel" "gained" "[J") ∈ zts := zts_r 806 (by decide +kernel) (by decide +kernel)
theorem wd_808 : (Jvm.Cond.laysFinal "YoungerBackModel" "YoungerBackModel" "others" "[J") ∈ zts := zts_r 808 (by decide +kernel) (by decide +kernel)
theorem wd_810 : (Jvm.Cond.laysFinal "YoungerBackModel" "YoungerBackModel" "isKept" "[Z") ∈ zts := zts_r 810 (by decide +kernel) (by decide +kernel)
theorem wd_812 : (Jvm.Cond.laysFinal "YoungerBackModel" "YoungerBackModel" "kept" "[I") ∈ zts := zts_r 812 (by decide +kernel) (by decide +kernel)
theorem wd_814 : (Jvm.Cond.laysFinal "YoungerBackModel" "YoungerBackModel" "trace" "[I") ∈ zts := zts_r 814 (by decide +kernel) (by decide +kernel)
theorem wd_816 : (Jvm.Cond.lays "YoungerBackModel" "YoungerBackModel" "traced" "I") ∈ zts := zts_r 816 (by decide +kernel) (by decide +kernel)
theorem wd_819 : (Jvm.Cond.methodLink "YoungerBackLaw" (17 : Nat) ({ cls := "YoungerBackModel", name := "row", desc := "(III)I" } : Jvm.MethodName)) ∈ zts := zts_r 819 (by decide +kernel) (by decide +kernel)
theorem wd_820 : (Jvm.Cond.instanceMethod ({ cls := "YoungerBackModel", name := "row", desc := "(III)I" } : Jvm.MethodName)) ∈ zts := zts_r 820 (by decide +kernel) (by decide +kernel)
theorem wd_821 : (Jvm.Cond.selects "YoungerBackModel" ({ cls := "YoungerBackModel", name := "row", desc := "(III)I" } : Jvm.MethodName) ({ cls := "YoungerBackModel", name := "row", desc := "(III)I" } : Jvm.MethodName)) ∈ zts := zts_r 821 (by decide +kernel) (by decide +kernel)
theorem wd_822 : (Jvm.Cond.code ({ cls := "YoungerBackModel", name := "row", desc := "(III)I" } : Jvm.MethodName) prog_10_method_6_code (5 : Nat) (Option.some Jvm.ClassFile.FieldType.int)) ∈ zts := zts_r 822 (by decide +kernel) (by decide +kernel)
theorem wd_823 : (Jvm.Cond.methodLink "YoungerBackModel" (62 : Nat) ({ cls := "YoungerBackModel", name := "isRow", desc := "(I)Z" } : Jvm.MethodName)) ∈ zts := zts_r 823 (by decide +kernel) (by decide +kernel)
theorem wd_824 : (Jvm.Cond.static ({ cls := "YoungerBackModel", name := "isRow", desc := "(I)Z" } : Jvm.MethodName)) ∈ zts := zts_r 824 (by decide +kernel) (by decide +kernel)
theorem wd_825 : (Jvm.Cond.code ({ cls := "YoungerBackModel", name := "isRow", desc := "(I)Z" } : Jvm.MethodName) prog_10_method_5_code (1 : Nat) (Option.some Jvm.ClassFile.FieldType.boolean)) ∈ zts := zts_r 825 (by decide +kernel) (by decide +kernel)
theorem wd_826 : (Jvm.Cond.constantLong "YoungerBackModel" (56 : Nat) (7 : Int64)) ∈ zts := zts_r 826 (by decide +kernel) (by decide +kernel)
theorem wd_827 : (Jvm.Cond.methodLink "YoungerBackModel" (58 : Nat) ({ cls := "YoungerBackModel", name := "in", desc := "(JJJ)Z" } : Jvm.MethodName)) ∈ zts := zts_r 827 (by decide +kernel) (by decide +kernel)
theorem wd_828 : (Jvm.Cond.static ({ cls := "YoungerBackModel", name := "in", desc := "(JJJ)Z" } : Jvm.MethodName)) ∈ zts := zts_r 828 (by decide +kernel) (by decide +kernel)
theorem wd_829 : (Jvm.Cond.code ({ cls := "YoungerBackModel", name := "in", desc := "(JJJ)Z" } : Jvm.MethodName) prog_10_method_3_code (6 : Nat) (Option.some Jvm.ClassFile.FieldType.boolean)) ∈ zts := zts_r 829 (by decide +kernel) (by decide +kernel)
theorem wd_830 : (Jvm.Cond.constantLong "YoungerBackModel" (66 : Nat) (2 : Int64)) ∈ zts := zts_r 830 (by decide +kernel) (by decide +kernel)
theorem wd_831 : (Jvm.Cond.constant "YoungerBackModel" (68 : Nat) (-1000001 : Int32)) ∈ zts := zts_r 831 (by decide +kernel) (by decide +kernel)
theorem wd_832 : (Jvm.Cond.methodLink "YoungerBackModel" (69 : Nat) ({ cls := "YoungerBackModel", name := "finding", desc := "(I)I" } : Jvm.MethodName)) ∈ zts := zts_r 832 (by decide +kernel) (by decide +kernel)
theorem wd_834 : (Jvm.Cond.instanceMethod ({ cls := "YoungerBackModel", name := "finding", desc := "(I)I" } : Jvm.MethodName)) ∈ zts := zts_r 834 (by decide +kernel) (by decide +kernel)
theorem wd_835 : (Jvm.Cond.code ({ cls := "YoungerBackModel", name := "finding", desc := "(I)I" } : Jvm.MethodName) prog_10_method_4_code (2 : Nat) (Option.some Jvm.ClassFile.FieldType.int)) ∈ zts := zts_r 835 (by decide +kernel) (by decide +kernel)
theorem wd_836 : (Jvm.Cond.constant "YoungerBackModel" (55 : Nat) (-1000010 : Int32)) ∈ zts := zts_r 836 (by decide +kernel) (by decide +kernel)
theorem wd_837 : (Jvm.Cond.methodLink "YoungerBackLaw" (21 : Nat) ({ cls := "YoungerBackModel", name := "set", desc := "(III)I" } : Jvm.MethodName)) ∈ zts := zts_r 837 (by decide +kernel) (by decide +kernel)
theorem wd_838 : (Jvm.Cond.instanceMethod ({ cls := "YoungerBackModel", name := "set", desc := "(III)I" } : Jvm.MethodName)) ∈ zts := zts_r 838 (by decide +kernel) (by decide +kernel)
theorem wd_839 : (Jvm.Cond.selects "YoungerBackModel" ({ cls := "YoungerBackModel", name := "set", desc := "(III)I" } : Jvm.MethodName) ({ cls := "YoungerBackModel", name := "set", desc := "(III)I" } : Jvm.MethodName)) ∈ zts := zts_r 839 (by decide +kernel) (by decide +kernel)
theorem wd_840 : (Jvm.Cond.code ({ cls := "YoungerBackModel", name := "set", desc := "(III)I" } : Jvm.MethodName) prog_10_method_7_code (4 : Nat) (Option.some Jvm.ClassFile.FieldType.int)) ∈ zts := zts_r 840 (by decide +kernel) (by decide +kernel)
theorem wd_841 : (Jvm.Cond.methodLink "YoungerBackLaw" (26 : Nat) ({ cls := "YoungerBackModel", name := "copy", desc := "(IIIII)I" } : Jvm.MethodName)) ∈ zts := zts_r 841 (by decide +kernel) (by decide +kernel)
theorem wd_842 : (Jvm.Cond.instanceMethod ({ cls := "YoungerBackModel", name := "copy", desc := "(IIIII)I" } : Jvm.MethodName)) ∈ zts := zts_r 842 (by decide +kernel) (by decide +kernel)
theorem wd_843 : (Jvm.Cond.selects "YoungerBackModel" ({ cls := "YoungerBackModel", name := "copy", desc := "(IIIII)I" } : Jvm.MethodName) ({ cls := "YoungerBackModel", name := "copy", desc := "(IIIII)I" } : Jvm.MethodName)) ∈ zts := zts_r 843 (by decide +kernel) (by decide +kernel)
theorem wd_844 : (Jvm.Cond.code ({ cls := "YoungerBackModel", name := "copy", desc := "(IIIII)I" } : Jvm.MethodName) prog_10_method_8_code (9 : Nat) (Option.some Jvm.ClassFile.FieldType.int)) ∈ zts := zts_r 844 (by decide +kernel) (by decide +kernel)
theorem wd_845 : (Jvm.Cond.methodLink "YoungerBackLaw" (31 : Nat) ({ cls := "YoungerBackModel", name := "drop", desc := "(I)I" } : Jvm.MethodName)) ∈ zts := zts_r 845 (by decide +kernel) (by decide +kernel)
theorem wd_846 : (Jvm.Cond.instanceMethod ({ cls := "YoungerBackModel", name := "drop", desc := "(I)I" } : Jvm.MethodName)) ∈ zts := zts_r 846 (by decide +kernel) (by decide +kernel)
theorem wd_847 : (Jvm.Cond.selects "YoungerBackModel" ({ cls := "YoungerBackModel", name := "drop", desc := "(I)I" } : Jvm.MethodName) ({ cls := "YoungerBackModel", name := "drop", desc := "(I)I" } : Jvm.MethodName)) ∈ zts := zts_r 847 (by decide +kernel) (by decide +kernel)
theorem wd_848 : (Jvm.Cond.code ({ cls := "YoungerBackModel", name := "drop", desc := "(I)I" } : Jvm.MethodName) prog_10_method_9_code (2 : Nat) (Option.some Jvm.ClassFile.FieldType.int)) ∈ zts := zts_r 848 (by decide +kernel) (by decide +kernel)
theorem wd_849 : (Jvm.Cond.methodLink "YoungerBackLaw" (38 : Nat) ({ cls := "YoungerBackModel", name := "feed", desc := "(JI)I" } : Jvm.MethodName)) ∈ zts := zts_r 849 (by decide +kernel) (by decide +kernel)
theorem wd_850 : (Jvm.Cond.instanceMethod ({ cls := "YoungerBackModel", name := "feed", desc := "(JI)I" } : Jvm.MethodName)) ∈ zts := zts_r 850 (by decide +kernel) (by decide +kernel)
theorem wd_851 : (Jvm.Cond.selects "YoungerBackModel" ({ cls := "YoungerBackModel", name := "feed", desc := "(JI)I" } : Jvm.MethodName) ({ cls := "YoungerBackModel", name := "feed", desc := "(JI)I" } : Jvm.MethodName)) ∈ zts := zts_r 851 (by decide +kernel) (by decide +kernel)
theorem wd_852 : (Jvm.Cond.code ({ cls := "YoungerBackModel", name := "feed", desc := "(JI)I" } : Jvm.MethodName) prog_10_method_10_code (5 : Nat) (Option.some Jvm.ClassFile.FieldType.int)) ∈ zts := zts_r 852 (by decide +kernel) (by decide +kernel)
theorem wd_853 : (Jvm.Cond.constantLong "YoungerBackModel" (73 : Nat) (8 : Int64)) ∈ zts := zts_r 853 (by decide +kernel) (by decide +kernel)
theorem wd_854 : (Jvm.Cond.constant "YoungerBackModel" (78 : Nat) (-1000003 : Int32)) ∈ zts := zts_r 854 (by decide +kernel) (by decide +kernel)
theorem wd_855 : (Jvm.Cond.constantLong "YoungerBackModel" (79 : Nat) (255 : Int64)) ∈ zts := zts_r 855 (by decide +kernel) (by decide +kernel)
theorem wd_856 : (Jvm.Cond.methodLink "YoungerBackLaw" (43 : Nat) ({ cls := "YoungerBackModel", name := "league", desc := "()I" } : Jvm.MethodName)) ∈ zts := zts_r 856 (by decide +kernel) (by decide +kernel)
theorem wd_857 : (Jvm.Cond.instanceMethod ({ cls := "YoungerBackModel", name := "league", desc := "()I" } : Jvm.MethodName)) ∈ zts := zts_r 857 (by decide +kernel) (by decide +kernel)
theorem wd_858 : (Jvm.Cond.selects "YoungerBackModel" ({ cls := "YoungerBackModel", name := "league", desc := "()I" } : Jvm.MethodName) ({ cls := "YoungerBackModel", name := "league", desc := "()I" } : Jvm.MethodName)) ∈ zts := zts_r 858 (by decide +kernel) (by decide +kernel)
theorem wd_859 : (Jvm.Cond.code ({ cls := "YoungerBackModel", name := "league", desc := "()I" } : Jvm.MethodName) prog_10_method_26_code (2 : Nat) (Option.some Jvm.ClassFile.FieldType.int)) ∈ zts := zts_r 859 (by decide +kernel) (by decide +kernel)
theorem wd_860 : (Jvm.Cond.methodLink "YoungerBackModel" (156 : Nat) ({ cls := "YoungerBackModel", name := "begin", desc := "()V" } : Jvm.MethodName)) ∈ zts := zts_r 860 (by decide +kernel) (by decide +kernel)
theorem wd_862 : (Jvm.Cond.instanceMethod ({ cls := "YoungerBackModel", name := "begin", desc := "()V" } : Jvm.MethodName)) ∈ zts := zts_r 862 (by decide +kernel) (by decide +kernel)
theorem wd_863 : (Jvm.Cond.code ({ cls := "YoungerBackModel", name := "begin", desc := "()V" } : Jvm.MethodName) prog_10_method_15_code (1 : Nat) (Option.none : Option Jvm.ClassFile.FieldType)) ∈ zts := zts_r 863 (by decide +kernel) (by decide +kernel)
theorem wd_864 : (Jvm.Cond.methodLink "YoungerBackModel" (109 : Nat) ({ cls := "YoungerBackModel", name := "next", desc := "()V" } : Jvm.MethodName)) ∈ zts := zts_r 864 (by decide +kernel) (by decide +kernel)
theorem wd_866 : (Jvm.Cond.instanceMethod ({ cls := "YoungerBackModel", name := "next", desc := "()V" } : Jvm.MethodName)) ∈ zts := zts_r 866 (by decide +kernel) (by decide +kernel)
theorem wd_867 : (Jvm.Cond.code ({ cls := "YoungerBackModel", name := "next", desc := "()V" } : Jvm.MethodName) prog_10_method_14_code (2 : Nat) (Option.none : Option Jvm.ClassFile.FieldType)) ∈ zts := zts_r 867 (by decide +kernel) (by decide +kernel)
theorem wd_868 : (Jvm.Cond.methodLink "YoungerBackModel" (88 : Nat) ({ cls := "YoungerBackModel", name := "byteAt", desc := "(I)I" } : Jvm.MethodName)) ∈ zts := zts_r 868 (by decide +kernel) (by decide +kernel)
theorem wd_870 : (Jvm.Cond.instanceMethod ({ cls := "YoungerBackModel", name := "byteAt", desc := "(I)I" } : Jvm.MethodName)) ∈ zts := zts_r 870 (by decide +kernel) (by decide +kernel)
theorem wd_871 : (Jvm.Cond.code ({ cls := "YoungerBackModel", name := "byteAt", desc := "(I)I" } : Jvm.MethodName) prog_10_method_11_code (2 : Nat) (Option.some Jvm.ClassFile.FieldType.int)) ∈ zts := zts_r 871 (by decide +kernel) (by decide +kernel)
theorem wd_872 : (Jvm.Cond.constant "YoungerBackModel" (84 : Nat) (-1000000 : Int32)) ∈ zts := zts_r 872 (by decide +kernel) (by decide +kernel)
theorem wd_873 : (Jvm.Cond.methodLink "YoungerBackModel" (97 : Nat) ({ cls := "YoungerBackModel", name := "isLetter", desc := "(I)Z" } : Jvm.MethodName)) ∈ zts := zts_r 873 (by decide +kernel) (by decide +kernel)
theorem wd_874 : (Jvm.Cond.static ({ cls := "YoungerBackModel", name := "isLetter", desc := "(I)Z" } : Jvm.MethodName)) ∈ zts := zts_r 874 (by decide +kernel) (by decide +kernel)
theorem wd_875 : (Jvm.Cond.code ({ cls := "YoungerBackModel", name := "isLetter", desc := "(I)Z" } : Jvm.MethodName) prog_10_method_12_code (1 : Nat) (Option.some Jvm.ClassFile.FieldType.boolean)) ∈ zts := zts_r 875 (by decide +kernel) (by decide +kernel)
theorem wd_876 : (Jvm.Cond.methodLink "YoungerBackModel" (100 : Nat) ({ cls := "YoungerBackModel", name := "isFigure", desc := "(I)Z" } : Jvm.MethodName)) ∈ zts := zts_r 876 (by decide +kernel) (by decide +kernel)
theorem wd_877 : (Jvm.Cond.static ({ cls := "YoungerBackModel", name := "isFigure", desc := "(I)Z" } : Jvm.MethodName)) ∈ zts := zts_r 877 (by decide +kernel) (by decide +kernel)
theorem wd_878 : (Jvm.Cond.code ({ cls := "YoungerBackModel", name := "isFigure", desc := "(I)Z" } : Jvm.MethodName) prog_10_method_13_code (1 : Nat) (Option.some Jvm.ClassFile.FieldType.boolean)) ∈ zts := zts_r 878 (by decide +kernel) (by decide +kernel)
theorem wd_879 : (Jvm.Cond.methodLink "YoungerBackModel" (148 : Nat) ({ cls := "YoungerBackModel", name := "name", desc := "()J" } : Jvm.MethodName)) ∈ zts := zts_r 879 (by decide +kernel) (by decide +kernel)
theorem wd_881 : (Jvm.Cond.instanceMethod ({ cls := "YoungerBackModel", name := "name", desc := "()J" } : Jvm.MethodName)) ∈ zts := zts_r 881 (by decide +kernel) (by decide +kernel)
theorem wd_882 : (Jvm.Cond.code ({ cls := "YoungerBackModel", name := "name", desc := "()J" } : Jvm.MethodName) prog_10_method_18_code (4 : Nat) (Option.some Jvm.ClassFile.FieldType.long)) ∈ zts := zts_r 882 (by decide +kernel) (by decide +kernel)
theorem wd_883 : (Jvm.Cond.constantLong "YoungerBackModel" (159 : Nat) (7102839 : Int64)) ∈ zts := zts_r 883 (by decide +kernel) (by decide +kernel)
theorem wd_884 : (Jvm.Cond.methodLink "YoungerBackModel" (123 : Nat) ({ cls := "YoungerBackModel", name := "must", desc := "(Z)V" } : Jvm.MethodName)) ∈ zts := zts_r 884 (by decide +kernel) (by decide +kernel)
theorem wd_886 : (Jvm.Cond.instanceMethod ({ cls := "YoungerBackModel", name := "must", desc := "(Z)V" } : Jvm.MethodName)) ∈ zts := zts_r 886 (by decide +kernel) (by decide +kernel)
theorem wd_887 : (Jvm.Cond.code ({ cls := "YoungerBackModel", name := "must", desc := "(Z)V" } : Jvm.MethodName) prog_10_method_17_code (2 : Nat) (Option.none : Option Jvm.ClassFile.FieldType)) ∈ zts := zts_r 887 (by decide +kernel) (by decide +kernel)
theorem wd_888 : (Jvm.Cond.methodLink "YoungerBackModel" (115 : Nat) ({ cls := "YoungerBackModel", name := "bad", desc := "(I)V" } : Jvm.MethodName)) ∈ zts := zts_r 888 (by decide +kernel) (by decide +kernel)
theorem wd_890 : (Jvm.Cond.instanceMethod ({ cls := "YoungerBackModel", name := "bad", desc := "(I)V" } : Jvm.MethodName)) ∈ zts := zts_r 890 (by decide +kernel) (by decide +kernel)
theorem wd_891 : (Jvm.Cond.code ({ cls := "YoungerBackModel", name := "bad", desc := "(I)V" } : Jvm.MethodName) prog_10_method_16_code (2 : Nat) (Option.none : Option Jvm.ClassFile.FieldType)) ∈ zts := zts_r 891 (by decide +kernel) (by decide +kernel)
theorem wd_892 : (Jvm.Cond.methodLink "YoungerBackModel" (141 : Nat) ({ cls := "YoungerBackModel", name := "number", desc := "(II)I" } : Jvm.MethodName)) ∈ zts := zts_r 892 (by decide +kernel) (by decide +kernel)
theorem wd_894 : (Jvm.Cond.instanceMethod ({ cls := "YoungerBackModel", name := "number", desc := "(II)I" } : Jvm.MethodName)) ∈ zts := zts_r 894 (by decide +kernel) (by decide +kernel)
theorem wd_895 : (Jvm.Cond.code ({ cls := "YoungerBackModel", name := "number", desc := "(II)I" } : Jvm.MethodName) prog_10_method_20_code (4 : Nat) (Option.some Jvm.ClassFile.FieldType.int)) ∈ zts := zts_r 895 (by decide +kernel) (by decide +kernel)
theorem wd_896 : (Jvm.Cond.methodLink "YoungerBackModel" (119 : Nat) ({ cls := "YoungerBackModel", name := "figures", desc := "()I" } : Jvm.MethodName)) ∈ zts := zts_r 896 (by decide +kernel) (by decide +kernel)
theorem wd_898 : (Jvm.Cond.instanceMethod ({ cls := "YoungerBackModel", name := "figures", desc := "()I" } : Jvm.MethodName)) ∈ zts := zts_r 898 (by decide +kernel) (by decide +kernel)
theorem wd_899 : (Jvm.Cond.code ({ cls := "YoungerBackModel", name := "figures", desc := "()I" } : Jvm.MethodName) prog_10_method_19_code (3 : Nat) (Option.some Jvm.ClassFile.FieldType.int)) ∈ zts := zts_r 899 (by decide +kernel) (by decide +kernel)
theorem wd_900 : (Jvm.Cond.methodLink "YoungerBackModel" (145 : Nat) ({ cls := "YoungerBackModel", name := "mustEnd", desc := "()V" } : Jvm.MethodName)) ∈ zts := zts_r 900 (by decide +kernel) (by decide +kernel)
theorem wd_902 : (Jvm.Cond.instanceMethod ({ cls := "YoungerBackModel", name := "mustEnd", desc := "()V" } : Jvm.MethodName)) ∈ zts := zts_r 902 (by decide +kernel) (by decide +kernel)
theorem wd_903 : (Jvm.Cond.code ({ cls := "YoungerBackModel", name := "mustEnd", desc := "()V" } : Jvm.MethodName) prog_10_method_22_code (1 : Nat) (Option.none : Option Jvm.ClassFile.FieldType)) ∈ zts := zts_r 903 (by decide +kernel) (by decide +kernel)
theorem wd_904 : (Jvm.Cond.constantLong "YoungerBackModel" (161 : Nat) (7823737 : Int64)) ∈ zts := zts_r 904 (by decide +kernel) (by decide +kernel)
theorem wd_905 : (Jvm.Cond.methodLink "YoungerBackModel" (163 : Nat) ({ cls := "YoungerBackModel", name := "readWay", desc := "()V" } : Jvm.MethodName)) ∈ zts := zts_r 905 (by decide +kernel) (by decide +kernel)
theorem wd_907 : (Jvm.Cond.instanceMethod ({ cls := "YoungerBackModel", name := "readWay", desc := "()V" } : Jvm.MethodName)) ∈ zts := zts_r 907 (by decide +kernel) (by decide +kernel)
theorem wd_908 : (Jvm.Cond.code ({ cls := "YoungerBackModel", name := "readWay", desc := "()V" } : Jvm.MethodName) prog_10_method_24_code (6 : Nat) (Option.none : Option Jvm.ClassFile.FieldType)) ∈ zts := zts_r 908 (by decide +kernel) (by decide +kernel)
theorem wd_909 : (Jvm.Cond.methodLink "YoungerBackModel" (137 : Nat) ({ cls := "YoungerBackModel", name := "begins", desc := "(II)V" } : Jvm.MethodName)) ∈ zts := zts_r 909 (by decide +kernel) (by decide +kernel)
theorem wd_911 : (Jvm.Cond.instanceMethod ({ cls := "YoungerBackModel", name := "begins", desc := "(II)V" } : Jvm.MethodName)) ∈ zts := zts_r 911 (by decide +kernel) (by decide +kernel)
theorem wd_912 : (Jvm.Cond.code ({ cls := "YoungerBackModel", name := "begins", desc := "(II)V" } : Jvm.MethodName) prog_10_method_23_code (3 : Nat) (Option.none : Option Jvm.ClassFile.FieldType)) ∈ zts := zts_r 912 (by decide +kernel) (by decide +kernel)
theorem wd_913 : (Jvm.Cond.constantLong "YoungerBackModel" (166 : Nat) (123581014175598 : Int64)) ∈ zts := zts_r 913 (by decide +kernel) (by decide +kernel)
theorem wd_914 : (Jvm.Cond.methodLink "YoungerBackModel" (168 : Nat) ({ cls := "YoungerBackModel", name := "readPerson", desc := "()V" } : Jvm.MethodName)) ∈ zts := zts_r 914 (by decide +kernel) (by decide +kernel)
theorem wd_916 : (Jvm.Cond.instanceMethod ({ cls := "YoungerBackModel", name := "readPerson", desc := "()V" } : Jvm.MethodName)) ∈ zts := zts_r 916 (by decide +kernel) (by decide +kernel)
theorem wd_917 : (Jvm.Cond.code ({ cls := "YoungerBackModel", name := "readPerson", desc := "()V" } : Jvm.MethodName) prog_10_method_25_code (5 : Nat) (Option.none : Option Jvm.ClassFile.FieldType)) ∈ zts := zts_r 917 (by decide +kernel) (by decide +kernel)
theorem wd_918 : (Jvm.Cond.methodLink "YoungerBackModel" (152 : Nat) ({ cls := "YoungerBackModel", name := "kindBy", desc := "(J)I" } : Jvm.MethodName)) ∈ zts := zts_r 918 (by decide +kernel) (by decide +kernel)
theorem wd_919 : (Jvm.Cond.static ({ cls := "YoungerBackModel", name := "kindBy", desc := "(J)I" } : Jvm.MethodName)) ∈ zts := zts_r 919 (by decide +kernel) (by decide +kernel)
theorem wd_920 : (Jvm.Cond.code ({ cls := "YoungerBackModel", name := "kindBy", desc := "(J)I" } : Jvm.MethodName) prog_10_method_21_code (2 : Nat) (Option.some Jvm.ClassFile.FieldType.int)) ∈ zts := zts_r 920 (by decide +kernel) (by decide +kernel)
theorem wd_921 : (Jvm.Cond.constantLong "YoungerBackModel" (127 : Nat) (27973158311127406 : Int64)) ∈ zts := zts_r 921 (by decide +kernel) (by decide +kernel)
theorem wd_922 : (Jvm.Cond.constantLong "YoungerBackModel" (129 : Nat) (482805051252 : Int64)) ∈ zts := zts_r 922 (by decide +kernel) (by decide +kernel)
theorem wd_923 : (Jvm.Cond.constantLong "YoungerBackModel" (131 : Nat) (1836019307 : Int64)) ∈ zts := zts_r 923 (by decide +kernel) (by decide +kernel)
theorem wd_924 : (Jvm.Cond.constantLong "YoungerBackModel" (133 : Nat) (427020350059 : Int64)) ∈ zts := zts_r 924 (by decide +kernel) (by decide +kernel)
theorem wd_925 : (Jvm.Cond.constantLong "YoungerBackModel" (135 : Nat) (6451065 : Int64)) ∈ zts := zts_r 925 (by decide +kernel) (by decide +kernel)
theorem wd_926 : (Jvm.Cond.constant "YoungerBackModel" (174 : Nat) (-1000100 : Int32)) ∈ zts := zts_r 926 (by decide +kernel) (by decide +kernel)
theorem wd_927 : (Jvm.Cond.methodLink "YoungerBackLaw" (47 : Nat) ({ cls := "YoungerBackModel", name := "fault", desc := "()I" } : Jvm.MethodName)) ∈ zts := zts_r 927 (by decide +kernel) (by decide +kernel)
theorem wd_928 : (Jvm.Cond.instanceMethod ({ cls := "YoungerBackModel", name := "fault", desc := "()I" } : Jvm.MethodName)) ∈ zts := zts_r 928 (by decide +kernel) (by decide +kernel)
theorem wd_929 : (Jvm.Cond.selects "YoungerBackModel" ({ cls := "YoungerBackModel", name := "fault", desc := "()I" } : Jvm.MethodName) ({ cls := "YoungerBackModel", name := "fault", desc := "()I" } : Jvm.MethodName)) ∈ zts := zts_r 929 (by decide +kernel) (by decide +kernel)
theorem wd_930 : (Jvm.Cond.code ({ cls := "YoungerBackModel", name := "fault", desc := "()I" } : Jvm.MethodName) prog_10_method_27_code (1 : Nat) (Option.some Jvm.ClassFile.FieldType.int)) ∈ zts := zts_r 930 (by decide +kernel) (by decide +kernel)
theorem wd_931 : (Jvm.Cond.methodLink "YoungerBackLaw" (52 : Nat) ({ cls := "YoungerBackModel", name := "sail", desc := "(II)I" } : Jvm.MethodName)) ∈ zts := zts_r 931 (by decide +kernel) (by decide +kernel)
theorem wd_932 : (Jvm.Cond.instanceMethod ({ cls := "YoungerBackModel", name := "sail", desc := "(II)I" } : Jvm.MethodName)) ∈ zts := zts_r 932 (by decide +kernel) (by decide +kernel)
theorem wd_933 : (Jvm.Cond.selects "YoungerBackModel" ({ cls := "YoungerBackModel", name := "sail", desc := "(II)I" } : Jvm.MethodName) ({ cls := "YoungerBackModel", name := "sail", desc := "(II)I" } : Jvm.MethodName)) ∈ zts := zts_r 933 (by decide +kernel) (by decide +kernel)
theorem wd_934 : (Jvm.Cond.code ({ cls := "YoungerBackModel", name := "sail", desc := "(II)I" } : Jvm.MethodName) prog_10_method_39_code (3 : Nat) (Option.some Jvm.ClassFile.FieldType.int)) ∈ zts := zts_r 934 (by decide +kernel) (by decide +kernel)
theorem wd_935 : (Jvm.Cond.methodLink "YoungerBackModel" (199 : Nat) ({ cls := "YoungerBackModel", name := "isPerson", desc := "(I)Z" } : Jvm.MethodName)) ∈ zts := zts_r 935 (by decide +kernel) (by decide +kernel)
theorem wd_937 : (Jvm.Cond.instanceMethod ({ cls := "YoungerBackModel", name := "isPerson", desc := "(I)Z" } : Jvm.MethodName)) ∈ zts := zts_r 937 (by decide +kernel) (by decide +kernel)
theorem wd_938 : (Jvm.Cond.code ({ cls := "YoungerBackModel", name := "isPerson", desc := "(I)Z" } : Jvm.MethodName) prog_10_method_29_code (2 : Nat) (Option.some Jvm.ClassFile.FieldType.boolean)) ∈ zts := zts_r 938 (by decide +kernel) (by decide +kernel)
theorem wd_939 : (Jvm.Cond.methodLink "YoungerBackModel" (202 : Nat) ({ cls := "YoungerBackModel", name := "isWay", desc := "(I)Z" } : Jvm.MethodName)) ∈ zts := zts_r 939 (by decide +kernel) (by decide +kernel)
theorem wd_941 : (Jvm.Cond.instanceMethod ({ cls := "YoungerBackModel", name := "isWay", desc := "(I)Z" } : Jvm.MethodName)) ∈ zts := zts_r 941 (by decide +kernel) (by decide +kernel)
theorem wd_942 : (Jvm.Cond.code ({ cls := "YoungerBackModel", name := "isWay", desc := "(I)Z" } : Jvm.MethodName) prog_10_method_30_code (2 : Nat) (Option.some Jvm.ClassFile.FieldType.boolean)) ∈ zts := zts_r 942 (by decide +kernel) (by decide +kernel)
theorem wd_943 : (Jvm.Cond.methodLink "YoungerBackModel" (205 : Nat) ({ cls := "YoungerBackModel", name := "goes", desc := "(II)I" } : Jvm.MethodName)) ∈ zts := zts_r 943 (by decide +kernel) (by decide +kernel)
theorem wd_945 : (Jvm.Cond.instanceMethod ({ cls := "YoungerBackModel", name := "goes", desc := "(II)I" } : Jvm.MethodName)) ∈ zts := zts_r 945 (by decide +kernel) (by decide +kernel)
theorem wd_946 : (Jvm.Cond.code ({ cls := "YoungerBackModel", name := "goes", desc := "(II)I" } : Jvm.MethodName) prog_10_method_38_code (4 : Nat) (Option.some Jvm.ClassFile.FieldType.int)) ∈ zts := zts_r 946 (by decide +kernel) (by decide +kernel)
theorem wd_947 : (Jvm.Cond.methodLink "YoungerBackModel" (181 : Nat) ({ cls := "YoungerBackModel", name := "of", desc := "(II)I" } : Jvm.MethodName)) ∈ zts := zts_r 947 (by decide +kernel) (by decide +kernel)
theorem wd_949 : (Jvm.Cond.instanceMethod ({ cls := "YoungerBackModel", name := "of", desc := "(II)I" } : Jvm.MethodName)) ∈ zts := zts_r 949 (by decide +kernel) (by decide +kernel)
theorem wd_950 : (Jvm.Cond.code ({ cls := "YoungerBackModel", name := "of", desc := "(II)I" } : Jvm.MethodName) prog_10_method_32_code (3 : Nat) (Option.some Jvm.ClassFile.FieldType.int)) ∈ zts := zts_r 950 (by decide +kernel) (by decide +kernel)
theorem wd_951 : (Jvm.Cond.methodLink "YoungerBackModel" (184 : Nat) ({ cls := "YoungerBackModel", name := "endOf", desc := "(III)I" } : Jvm.MethodName)) ∈ zts := zts_r 951 (by decide +kernel) (by decide +kernel)
theorem wd_953 : (Jvm.Cond.instanceMethod ({ cls := "YoungerBackModel", name := "endOf", desc := "(III)I" } : Jvm.MethodName)) ∈ zts := zts_r 953 (by decide +kernel) (by decide +kernel)
theorem wd_954 : (Jvm.Cond.code ({ cls := "YoungerBackModel", name := "endOf", desc := "(III)I" } : Jvm.MethodName) prog_10_method_34_code (5 : Nat) (Option.some Jvm.ClassFile.FieldType.int)) ∈ zts := zts_r 954 (by decide +kernel) (by decide +kernel)
theorem wd_955 : (Jvm.Cond.methodLink "YoungerBackModel" (178 : Nat) ({ cls := "YoungerBackModel", name := "wayOf", desc := "(II)I" } : Jvm.MethodName)) ∈ zts := zts_r 955 (by decide +kernel) (by decide +kernel)
theorem wd_957 : (Jvm.Cond.instanceMethod ({ cls := "YoungerBackModel", name := "wayOf", desc := "(II)I" } : Jvm.MethodName)) ∈ zts := zts_r 957 (by decide +kernel) (by decide +kernel)
theorem wd_958 : (Jvm.Cond.code ({ cls := "YoungerBackModel", name := "wayOf", desc := "(II)I" } : Jvm.MethodName) prog_10_method_33_code (3 : Nat) (Option.some Jvm.ClassFile.FieldType.int)) ∈ zts := zts_r 958 (by decide +kernel) (by decide +kernel)
theorem wd_959 : (Jvm.Cond.constant "YoungerBackModel" (188 : Nat) (-1000002 : Int32)) ∈ zts := zts_r 959 (by decide +kernel) (by decide +kernel)
theorem wd_960 : (Jvm.Cond.methodLink "YoungerBackModel" (189 : Nat) ({ cls := "YoungerBackModel", name := "keep", desc := "()V" } : Jvm.MethodName)) ∈ zts := zts_r 960 (by decide +kernel) (by decide +kernel)
theorem wd_962 : (Jvm.Cond.instanceMethod ({ cls := "YoungerBackModel", name := "keep", desc := "()V" } : Jvm.MethodName)) ∈ zts := zts_r 962 (by decide +kernel) (by decide +kernel)
theorem wd_963 : (Jvm.Cond.code ({ cls := "YoungerBackModel", name := "keep", desc := "()V" } : Jvm.MethodName) prog_10_method_36_code (2 : Nat) (Option.none : Option Jvm.ClassFile.FieldType)) ∈ zts := zts_r 963 (by decide +kernel) (by decide +kernel)
theorem wd_964 : (Jvm.Cond.methodLink "YoungerBackModel" (192 : Nat) ({ cls := "YoungerBackModel", name := "agesBy", desc := "(II)I" } : Jvm.MethodName)) ∈ zts := zts_r 964 (by decide +kernel) (by decide +kernel)
theorem wd_966 : (Jvm.Cond.instanceMethod ({ cls := "YoungerBackModel", name := "agesBy", desc := "(II)I" } : Jvm.MethodName)) ∈ zts := zts_r 966 (by decide +kernel) (by decide +kernel)
theorem wd_967 : (Jvm.Cond.code ({ cls := "YoungerBackModel", name := "agesBy", desc := "(II)I" } : Jvm.MethodName) prog_10_method_35_code (4 : Nat) (Option.some Jvm.ClassFile.FieldType.int)) ∈ zts := zts_r 967 (by decide +kernel) (by decide +kernel)
theorem wd_968 : (Jvm.Cond.methodLink "YoungerBackModel" (195 : Nat) ({ cls := "YoungerBackModel", name := "ages", desc := "(III)V" } : Jvm.MethodName)) ∈ zts := zts_r 968 (by decide +kernel) (by decide +kernel)
theorem wd_970 : (Jvm.Cond.instanceMethod ({ cls := "YoungerBackModel", name := "ages", desc := "(III)V" } : Jvm.MethodName)) ∈ zts := zts_r 970 (by decide +kernel) (by decide +kernel)
theorem wd_971 : (Jvm.Cond.code ({ cls := "YoungerBackModel", name := "ages", desc := "(III)V" } : Jvm.MethodName) prog_10_method_37_code (4 : Nat) (Option.none : Option Jvm.ClassFile.FieldType)) ∈ zts := zts_r 971 (by decide +kernel) (by decide +kernel)
theorem wd_972 : (Jvm.Cond.methodLink "YoungerBackLaw" (57 : Nat) ({ cls := "YoungerBackModel", name := "sails", desc := "(IIII)I" } : Jvm.MethodName)) ∈ zts := zts_r 972 (by decide +kernel) (by decide +kernel)
theorem wd_973 : (Jvm.Cond.instanceMethod ({ cls := "YoungerBackModel", name := "sails", desc := "(IIII)I" } : Jvm.MethodName)) ∈ zts := zts_r 973 (by decide +kernel) (by decide +kernel)
theorem wd_974 : (Jvm.Cond.selects "YoungerBackModel" ({ cls := "YoungerBackModel", name := "sails", desc := "(IIII)I" } : Jvm.MethodName) ({ cls := "YoungerBackModel", name := "sails", desc := "(IIII)I" } : Jvm.MethodName)) ∈ zts := zts_r 974 (by decide +kernel) (by decide +kernel)
theorem wd_975 : (Jvm.Cond.code ({ cls := "YoungerBackModel", name := "sails", desc := "(IIII)I" } : Jvm.MethodName) prog_10_method_40_code (6 : Nat) (Option.some Jvm.ClassFile.FieldType.int)) ∈ zts := zts_r 975 (by decide +kernel) (by decide +kernel)
theorem wd_976 : (Jvm.Cond.constantLong "YoungerBackModel" (208 : Nat) (24 : Int64)) ∈ zts := zts_r 976 (by decide +kernel) (by decide +kernel)
theorem wd_977 : (Jvm.Cond.methodLink "YoungerBackLaw" (61 : Nat) ({ cls := "YoungerBackModel", name := "stay", desc := "(II)I" } : Jvm.MethodName)) ∈ zts := zts_r 977 (by decide +kernel) (by decide +kernel)
theorem wd_978 : (Jvm.Cond.instanceMethod ({ cls := "YoungerBackModel", name := "stay", desc := "(II)I" } : Jvm.MethodName)) ∈ zts := zts_r 978 (by decide +kernel) (by decide +kernel)
theorem wd_979 : (Jvm.Cond.selects "YoungerBackModel" ({ cls := "YoungerBackModel", name := "stay", desc := "(II)I" } : Jvm.MethodName) ({ cls := "YoungerBackModel", name := "stay", desc := "(II)I" } : Jvm.MethodName)) ∈ zts := zts_r 979 (by decide +kernel) (by decide +kernel)
theorem wd_980 : (Jvm.Cond.code ({ cls := "YoungerBackModel", name := "stay", desc := "(II)I" } : Jvm.MethodName) prog_10_method_41_code (3 : Nat) (Option.some Jvm.ClassFile.FieldType.int)) ∈ zts := zts_r 980 (by decide +kernel) (by decide +kernel)
theorem wd_981 : (Jvm.Cond.constantLong "YoungerBackModel" (210 : Nat) (99 : Int64)) ∈ zts := zts_r 981 (by decide +kernel) (by decide +kernel)
theorem wd_982 : (Jvm.Cond.methodLink "YoungerBackLaw" (65 : Nat) ({ cls := "YoungerBackModel", name := "meet", desc := "(II)I" } : Jvm.MethodName)) ∈ zts := zts_r 982 (by decide +kernel) (by decide +kernel)
theorem wd_983 : (Jvm.Cond.instanceMethod ({ cls := "YoungerBackModel", name := "meet", desc := "(II)I" } : Jvm.MethodName)) ∈ zts := zts_r 983 (by decide +kernel) (by decide +kernel)
theorem wd_984 : (Jvm.Cond.selects "YoungerBackModel" ({ cls := "YoungerBackModel", name := "meet", desc := "(II)I" } : Jvm.MethodName) ({ cls := "YoungerBackModel", name := "meet", desc := "(II)I" } : Jvm.MethodName)) ∈ zts := zts_r 984 (by decide +kernel) (by decide +kernel)
theorem wd_985 : (Jvm.Cond.code ({ cls := "YoungerBackModel", name := "meet", desc := "(II)I" } : Jvm.MethodName) prog_10_method_42_code (4 : Nat) (Option.some Jvm.ClassFile.FieldType.int)) ∈ zts := zts_r 985 (by decide +kernel) (by decide +kernel)
theorem wd_986 : (Jvm.Cond.methodLink "YoungerBackLaw" (69 : Nat) ({ cls := "YoungerBackModel", name := "borrow", desc := "(II)I" } : Jvm.MethodName)) ∈ zts := zts_r 986 (by decide +kernel) (by decide +kernel)
theorem wd_987 : (Jvm.Cond.instanceMethod ({ cls := "YoungerBackModel", name := "borrow", desc := "(II)I" } : Jvm.MethodName)) ∈ zts := zts_r 987 (by decide +kernel) (by decide +kernel)
theorem wd_988 : (Jvm.Cond.selects "YoungerBackModel" ({ cls := "YoungerBackModel", name := "borrow", desc := "(II)I" } : Jvm.MethodName) ({ cls := "YoungerBackModel", name := "borrow", desc := "(II)I" } : Jvm.MethodName)) ∈ zts := zts_r 988 (by decide +kernel) (by decide +kernel)
theorem wd_989 : (Jvm.Cond.code ({ cls := "YoungerBackModel", name := "borrow", desc := "(II)I" } : Jvm.MethodName) prog_10_method_45_code (4 : Nat) (Option.some Jvm.ClassFile.FieldType.int)) ∈ zts := zts_r 989 (by decide +kernel) (by decide +kernel)
theorem wd_990 : (Jvm.Cond.constantLong "YoungerBackModel" (216 : Nat) (9999 : Int64)) ∈ zts := zts_r 990 (by decide +kernel) (by decide +kernel)
theorem wd_991 : (Jvm.Cond.methodLink "YoungerBackModel" (218 : Nat) ({ cls := "YoungerBackModel", name := "owedBy", desc := "(II)I" } : Jvm.MethodName)) ∈ zts := zts_r 991 (by decide +kernel) (by decide +kernel)
theorem wd_993 : (Jvm.Cond.instanceMethod ({ cls := "YoungerBackModel", name := "owedBy", desc := "(II)I" } : Jvm.MethodName)) ∈ zts := zts_r 993 (by decide +kernel) (by decide +kernel)
theorem wd_994 : (Jvm.Cond.code ({ cls := "YoungerBackModel", name := "owedBy", desc := "(II)I" } : Jvm.MethodName) prog_10_method_44_code (3 : Nat) (Option.some Jvm.ClassFile.FieldType.int)) ∈ zts := zts_r 994 (by decide +kernel) (by decide +kernel)
theorem wd_995 : (Jvm.Cond.methodLink "YoungerBackModel" (213 : Nat) ({ cls := "YoungerBackModel", name := "grown", desc := "(II)I" } : Jvm.MethodName)) ∈ zts := zts_r 995 (by decide +kernel) (by decide +kernel)
theorem wd_997 : (Jvm.Cond.instanceMethod ({ cls := "YoungerBackModel", name := "grown", desc := "(II)I" } : Jvm.MethodName)) ∈ zts := zts_r 997 (by decide +kernel) (by decide +kernel)
theorem wd_998 : (Jvm.Cond.code ({ cls := "YoungerBackModel", name := "grown", desc := "(II)I" } : Jvm.MethodName) prog_10_method_43_code (6 : Nat) (Option.some Jvm.ClassFile.FieldType.int)) ∈ zts := zts_r 998 (by decide +kernel) (by decide +kernel)
theorem wd_999 : (Jvm.Cond.constant "YoungerBackModel" (212 : Nat) (99999999 : Int32)) ∈ zts := zts_r 999 (by decide +kernel) (by decide +kernel)
theorem wd_1000 : (Jvm.Cond.methodLink "YoungerBackLaw" (73 : Nat) ({ cls := "YoungerBackModel", name := "undo", desc := "()I" } : Jvm.MethodName)) ∈ zts := zts_r 1000 (by decide +kernel) (by decide +kernel)
theorem wd_1001 : (Jvm.Cond.instanceMethod ({ cls := "YoungerBackModel", name := "undo", desc := "()I" } : Jvm.MethodName)) ∈ zts := zts_r 1001 (by decide +kernel) (by decide +kernel)
theorem wd_1002 : (Jvm.Cond.selects "YoungerBackModel" ({ cls := "YoungerBackModel", name := "undo", desc := "()I" } : Jvm.MethodName) ({ cls := "YoungerBackModel", name := "undo", desc := "()I" } : Jvm.MethodName)) ∈ zts := zts_r 1002 (by decide +kernel) (by decide +kernel)
theorem wd_1003 : (Jvm.Cond.code ({ cls := "YoungerBackModel", name := "undo", desc := "()I" } : Jvm.MethodName) prog_10_method_46_code (2 : Nat) (Option.some Jvm.ClassFile.FieldType.int)) ∈ zts := zts_r 1003 (by decide +kernel) (by decide +kernel)
theorem wd_1004 : (Jvm.Cond.methodLink "YoungerBackLaw" (77 : Nat) ({ cls := "YoungerBackModel", name := "person", desc := "(II)I" } : Jvm.MethodName)) ∈ zts := zts_r 1004 (by decide +kernel) (by decide +kernel)
theorem wd_1005 : (Jvm.Cond.instanceMethod ({ cls := "YoungerBackModel", name := "person", desc := "(II)I" } : Jvm.MethodName)) ∈ zts := zts_r 1005 (by decide +kernel) (by decide +kernel)
theorem wd_1006 : (Jvm.Cond.selects "YoungerBackModel" ({ cls := "YoungerBackModel", name := "person", desc := "(II)I" } : Jvm.MethodName) ({ cls := "YoungerBackModel", name := "person", desc := "(II)I" } : Jvm.MethodName)) ∈ zts := zts_r 1006 (by decide +kernel) (by decide +kernel)
theorem wd_1007 : (Jvm.Cond.code ({ cls := "YoungerBackModel", name := "person", desc := "(II)I" } : Jvm.MethodName) prog_10_method_47_code (3 : Nat) (Option.some Jvm.ClassFile.FieldType.int)) ∈ zts := zts_r 1007 (by decide +kernel) (by decide +kernel)
theorem wd_1008 : (Jvm.Cond.constantLong "YoungerBackModel" (221 : Nat) (5 : Int64)) ∈ zts := zts_r 1008 (by decide +kernel) (by decide +kernel)
theorem wd_1009 : (Jvm.Cond.methodLink "YoungerBackLaw" (81 : Nat) ({ cls := "YoungerBackModel", name := "gains", desc := "(IIII)I" } : Jvm.MethodName)) ∈ zts := zts_r 1009 (by decide +kernel) (by decide +kernel)
theorem wd_1010 : (Jvm.Cond.instanceMethod ({ cls := "YoungerBackModel", name := "gains", desc := "(IIII)I" } : Jvm.MethodName)) ∈ zts := zts_r 1010 (by decide +kernel) (by decide +kernel)
theorem wd_1011 : (Jvm.Cond.selects "YoungerBackModel" ({ cls := "YoungerBackModel", name := "gains", desc := "(IIII)I" } : Jvm.MethodName) ({ cls := "YoungerBackModel", name := "gains", desc := "(IIII)I" } : Jvm.MethodName)) ∈ zts := zts_r 1011 (by decide +kernel) (by decide +kernel)
theorem wd_1012 : (Jvm.Cond.code ({ cls := "YoungerBackModel", name := "gains", desc := "(IIII)I" } : Jvm.MethodName) prog_10_method_49_code (9 : Nat) (Option.some Jvm.ClassFile.FieldType.int)) ∈ zts := zts_r 1012 (by decide +kernel) (by decide +kernel)
theorem wd_1013 : (Jvm.Cond.methodLink "YoungerBackModel" (223 : Nat) ({ cls := "YoungerBackModel", name := "isHarbour", desc := "(I)Z" } : Jvm.MethodName)) ∈ zts := zts_r 1013 (by decide +kernel) (by decide +kernel)
theorem wd_1015 : (Jvm.Cond.instanceMethod ({ cls := "YoungerBackModel", name := "isHarbour", desc := "(I)Z" } : Jvm.MethodName)) ∈ zts := zts_r 1015 (by decide +kernel) (by decide +kernel)
theorem wd_1016 : (Jvm.Cond.code ({ cls := "YoungerBackModel", name := "isHarbour", desc := "(I)Z" } : Jvm.MethodName) prog_10_method_31_code (2 : Nat) (Option.some Jvm.ClassFile.FieldType.boolean)) ∈ zts := zts_r 1016 (by decide +kernel) (by decide +kernel)
theorem wd_1017 : (Jvm.Cond.constantLong "YoungerBackModel" (226 : Nat) (40 : Int64)) ∈ zts := zts_r 1017 (by decide +kernel) (by decide +kernel)
theorem wd_1018 : (Jvm.Cond.methodLink "YoungerBackModel" (228 : Nat) ({ cls := "YoungerBackModel", name := "layGains", desc := "(I)V" } : Jvm.MethodName)) ∈ zts := zts_r 1018 (by decide +kernel) (by decide +kernel)
theorem wd_1020 : (Jvm.Cond.instanceMethod ({ cls := "YoungerBackModel", name := "layGains", desc := "(I)V" } : Jvm.MethodName)) ∈ zts := zts_r 1020 (by decide +kernel) (by decide +kernel)
theorem wd_1021 : (Jvm.Cond.code ({ cls := "YoungerBackModel", name := "layGains", desc := "(I)V" } : Jvm.MethodName) prog_10_method_48_code (9 : Nat) (Option.none : Option Jvm.ClassFile.FieldType)) ∈ zts := zts_r 1021 (by decide +kernel) (by decide +kernel)
theorem wd_1022 : (Jvm.Cond.methodLink "YoungerBackLaw" (85 : Nat) ({ cls := "YoungerBackModel", name := "soonest", desc := "(III)I" } : Jvm.MethodName)) ∈ zts := zts_r 1022 (by decide +kernel) (by decide +kernel)
theorem wd_1023 : (Jvm.Cond.instanceMethod ({ cls := "YoungerBackModel", name := "soonest", desc := "(III)I" } : Jvm.MethodName)) ∈ zts := zts_r 1023 (by decide +kernel) (by decide +kernel)
theorem wd_1024 : (Jvm.Cond.selects "YoungerBackModel" ({ cls := "YoungerBackModel", name := "soonest", desc := "(III)I" } : Jvm.MethodName) ({ cls := "YoungerBackModel", name := "soonest", desc := "(III)I" } : Jvm.MethodName)) ∈ zts := zts_r 1024 (by decide +kernel) (by decide +kernel)
theorem wd_1025 : (Jvm.Cond.code ({ cls := "YoungerBackModel", name := "soonest", desc := "(III)I" } : Jvm.MethodName) prog_10_method_50_code (5 : Nat) (Option.some Jvm.ClassFile.FieldType.int)) ∈ zts := zts_r 1025 (by decide +kernel) (by decide +kernel)
theorem wd_1026 : (Jvm.Cond.methodLink "YoungerBackLaw" (89 : Nat) ({ cls := "YoungerBackModel", name := "voyages", desc := "(II)I" } : Jvm.MethodName)) ∈ zts := zts_r 1026 (by decide +kernel) (by decide +kernel)
theorem wd_1027 : (Jvm.Cond.instanceMethod ({ cls := "YoungerBackModel", name := "voyages", desc := "(II)I" } : Jvm.MethodName)) ∈ zts := zts_r 1027 (by decide +kernel) (by decide +kernel)
theorem wd_1028 : (Jvm.Cond.selects "YoungerBackModel" ({ cls := "YoungerBackModel", name := "voyages", desc := "(II)I" } : Jvm.MethodName) ({ cls := "YoungerBackModel", name := "voyages", desc := "(II)I" } : Jvm.MethodName)) ∈ zts := zts_r 1028 (by decide +kernel) (by decide +kernel)
theorem wd_1029 : (Jvm.Cond.code ({ cls := "YoungerBackModel", name := "voyages", desc := "(II)I" } : Jvm.MethodName) prog_10_method_51_code (9 : Nat) (Option.some Jvm.ClassFile.FieldType.int)) ∈ zts := zts_r 1029 (by decide +kernel) (by decide +kernel)
theorem wd_1030 : (Jvm.Cond.methodLink "YoungerBackLaw" (93 : Nat) ({ cls := "YoungerBackModel", name := "even", desc := "(III)I" } : Jvm.MethodName)) ∈ zts := zts_r 1030 (by decide +kernel) (by decide +kernel)
theorem wd_1031 : (Jvm.Cond.instanceMethod ({ cls := "YoungerBackModel", name := "even", desc := "(III)I" } : Jvm.MethodName)) ∈ zts := zts_r 1031 (by decide +kernel) (by decide +kernel)
theorem wd_1032 : (Jvm.Cond.selects "YoungerBackModel" ({ cls := "YoungerBackModel", name := "even", desc := "(III)I" } : Jvm.MethodName) ({ cls := "YoungerBackModel", name := "even", desc := "(III)I" } : Jvm.MethodName)) ∈ zts := zts_r 1032 (by decide +kernel) (by decide +kernel)
theorem wd_1033 : (Jvm.Cond.code ({ cls := "YoungerBackModel", name := "even", desc := "(III)I" } : Jvm.MethodName) prog_10_method_52_code (11 : Nat) (Option.some Jvm.ClassFile.FieldType.int)) ∈ zts := zts_r 1033 (by decide +kernel) (by decide +kernel)
theorem wd_1034 : (Jvm.Cond.methodLink "YoungerBackLaw" (97 : Nat) ({ cls := "YoungerBackModel", name := "where", desc := "(III)I" } : Jvm.MethodName)) ∈ zts := zts_r 1034 (by decide +kernel) (by decide +kernel)
theorem wd_1035 : (Jvm.Cond.instanceMethod ({ cls := "YoungerBackModel", name := "where", desc := "(III)I" } : Jvm.MethodName)) ∈ zts := zts_r 1035 (by decide +kernel) (by decide +kernel)
theorem wd_1036 : (Jvm.Cond.selects "YoungerBackModel" ({ cls := "YoungerBackModel", name := "where", desc := "(III)I" } : Jvm.MethodName) ({ cls := "YoungerBackModel", name := "where", desc := "(III)I" } : Jvm.MethodName)) ∈ zts := zts_r 1036 (by decide +kernel) (by decide +kernel)
theorem wd_1037 : (Jvm.Cond.code ({ cls := "YoungerBackModel", name := "where", desc := "(III)I" } : Jvm.MethodName) prog_10_method_53_code (8 : Nat) (Option.some Jvm.ClassFile.FieldType.int)) ∈ zts := zts_r 1037 (by decide +kernel) (by decide +kernel)
theorem wd_1038 : (Jvm.Cond.constantLong "YoungerBackModel" (231 : Nat) (200 : Int64)) ∈ zts := zts_r 1038 (by decide +kernel) (by decide +kernel)
theorem wd_1039 : (Jvm.Cond.constantLong "YoungerBackModel" (233 : Nat) (399 : Int64)) ∈ zts := zts_r 1039 (by decide +kernel) (by decide +kernel)
theorem wd_1040 : (Jvm.Cond.methodLink "YoungerBackLaw" (101 : Nat) ({ cls := "YoungerBackModel", name := "gone", desc := "(I)I" } : Jvm.MethodName)) ∈ zts := zts_r 1040 (by decide +kernel) (by decide +kernel)
theorem wd_1041 : (Jvm.Cond.instanceMethod ({ cls := "YoungerBackModel", name := "gone", desc := "(I)I" } : Jvm.MethodName)) ∈ zts := zts_r 1041 (by decide +kernel) (by decide +kernel)
theorem wd_1042 : (Jvm.Cond.selects "YoungerBackModel" ({ cls := "YoungerBackModel", name := "gone", desc := "(I)I" } : Jvm.MethodName) ({ cls := "YoungerBackModel", name := "gone", desc := "(I)I" } : Jvm.MethodName)) ∈ zts := zts_r 1042 (by decide +kernel) (by decide +kernel)
theorem wd_1043 : (Jvm.Cond.code ({ cls := "YoungerBackModel", name := "gone", desc := "(I)I" } : Jvm.MethodName) prog_10_method_54_code (2 : Nat) (Option.some Jvm.ClassFile.FieldType.int)) ∈ zts := zts_r 1043 (by decide +kernel) (by decide +kernel)
theorem wd_1044 : (Jvm.Cond.methodLink "YoungerBackLaw" (105 : Nat) ({ cls := "YoungerBackModel", name := "eldest", desc := "(I)I" } : Jvm.MethodName)) ∈ zts := zts_r 1044 (by decide +kernel) (by decide +kernel)
theorem wd_1045 : (Jvm.Cond.instanceMethod ({ cls := "YoungerBackModel", name := "eldest", desc := "(I)I" } : Jvm.MethodName)) ∈ zts := zts_r 1045 (by decide +kernel) (by decide +kernel)
theorem wd_1046 : (Jvm.Cond.selects "YoungerBackModel" ({ cls := "YoungerBackModel", name := "eldest", desc := "(I)I" } : Jvm.MethodName) ({ cls := "YoungerBackModel", name := "eldest", desc := "(I)I" } : Jvm.MethodName)) ∈ zts := zts_r 1046 (by decide +kernel) (by decide +kernel)
theorem wd_1047 : (Jvm.Cond.code ({ cls := "YoungerBackModel", name := "eldest", desc := "(I)I" } : Jvm.MethodName) prog_10_method_55_code (5 : Nat) (Option.some Jvm.ClassFile.FieldType.int)) ∈ zts := zts_r 1047 (by decide +kernel) (by decide +kernel)
theorem wd_1048 : (Jvm.Cond.methodLink "YoungerBackModel" (235 : Nat) ({ cls := "YoungerBackModel", name := "isThere", desc := "()Z" } : Jvm.MethodName)) ∈ zts := zts_r 1048 (by decide +kernel) (by decide +kernel)
theorem wd_1050 : (Jvm.Cond.instanceMethod ({ cls := "YoungerBackModel", name := "isThere", desc := "()Z" } : Jvm.MethodName)) ∈ zts := zts_r 1050 (by decide +kernel) (by decide +kernel)
theorem wd_1051 : (Jvm.Cond.code ({ cls := "YoungerBackModel", name := "isThere", desc := "()Z" } : Jvm.MethodName) prog_10_method_28_code (1 : Nat) (Option.some Jvm.ClassFile.FieldType.boolean)) ∈ zts := zts_r 1051 (by decide +kernel) (by decide +kernel)
theorem wd_1052 : (Jvm.Cond.methodLink "YoungerBackLaw" (109 : Nat) ({ cls := "YoungerBackModel", name := "image", desc := "(I)I" } : Jvm.MethodName)) ∈ zts := zts_r 1052 (by decide +kernel) (by decide +kernel)
theorem wd_1053 : (Jvm.Cond.instanceMethod ({ cls := "YoungerBackModel", name := "image", desc := "(I)I" } : Jvm.MethodName)) ∈ zts := zts_r 1053 (by decide +kernel) (by decide +kernel)
theorem wd_1054 : (Jvm.Cond.selects "YoungerBackModel" ({ cls := "YoungerBackModel", name := "image", desc := "(I)I" } : Jvm.MethodName) ({ cls := "YoungerBackModel", name := "image", desc := "(I)I" } : Jvm.MethodName)) ∈ zts := zts_r 1054 (by decide +kernel) (by decide +kernel)
theorem wd_1055 : (Jvm.Cond.code ({ cls := "YoungerBackModel", name := "image", desc := "(I)I" } : Jvm.MethodName) prog_10_method_56_code (3 : Nat) (Option.some Jvm.ClassFile.FieldType.int)) ∈ zts := zts_r 1055 (by decide +kernel) (by decide +kernel)
theorem wd_1056 : (Jvm.Cond.methodLink "YoungerBackLaw" (113 : Nat) ({ cls := "YoungerBackModel", name := "restore", desc := "(I)I" } : Jvm.MethodName)) ∈ zts := zts_r 1056 (by decide +kernel) (by decide +kernel)
theorem wd_1057 : (Jvm.Cond.instanceMethod ({ cls := "YoungerBackModel", name := "restore", desc := "(I)I" } : Jvm.MethodName)) ∈ zts := zts_r 1057 (by decide +kernel) (by decide +kernel)
theorem wd_1058 : (Jvm.Cond.selects "YoungerBackModel" ({ cls := "YoungerBackModel", name := "restore", desc := "(I)I" } : Jvm.MethodName) ({ cls := "YoungerBackModel", name := "restore", desc := "(I)I" } : Jvm.MethodName)) ∈ zts := zts_r 1058 (by decide +kernel) (by decide +kernel)
theorem wd_1059 : (Jvm.Cond.code ({ cls := "YoungerBackModel", name := "restore", desc := "(I)I" } : Jvm.MethodName) prog_10_method_57_code (3 : Nat) (Option.some Jvm.ClassFile.FieldType.int)) ∈ zts := zts_r 1059 (by decide +kernel) (by decide +kernel)
theorem wd_1060 : (Jvm.Cond.methodLink "YoungerBackLaw" (117 : Nat) ({ cls := "YoungerBackModel", name := "kind", desc := "(I)I" } : Jvm.MethodName)) ∈ zts := zts_r 1060 (by decide +kernel) (by decide +kernel)
theorem wd_1061 : (Jvm.Cond.instanceMethod ({ cls := "YoungerBackModel", name := "kind", desc := "(I)I" } : Jvm.MethodName)) ∈ zts := zts_r 1061 (by decide +kernel) (by decide +kernel)
theorem wd_1062 : (Jvm.Cond.selects "YoungerBackModel" ({ cls := "YoungerBackModel", name := "kind", desc := "(I)I" } : Jvm.MethodName) ({ cls := "YoungerBackModel", name := "kind", desc := "(I)I" } : Jvm.MethodName)) ∈ zts := zts_r 1062 (by decide +kernel) (by decide +kernel)
theorem wd_1063 : (Jvm.Cond.code ({ cls := "YoungerBackModel", name := "kind", desc := "(I)I" } : Jvm.MethodName) prog_10_method_59_code (2 : Nat) (Option.some Jvm.ClassFile.FieldType.int)) ∈ zts := zts_r 1063 (by decide +kernel) (by decide +kernel)
theorem wd_1064 : (Jvm.Cond.methodLink "YoungerBackLaw" (121 : Nat) ({ cls := "YoungerBackModel", name := "as", desc := "(II)I" } : Jvm.MethodName)) ∈ zts := zts_r 1064 (by decide +kernel) (by decide +kernel)
theorem wd_1065 : (Jvm.Cond.instanceMethod ({ cls := "YoungerBackModel", name := "as", desc := "(II)I" } : Jvm.MethodName)) ∈ zts := zts_r 1065 (by decide +kernel) (by decide +kernel)
theorem wd_1066 : (Jvm.Cond.selects "YoungerBackModel" ({ cls := "YoungerBackModel", name := "as", desc := "(II)I" } : Jvm.MethodName) ({ cls := "YoungerBackModel", name := "as", desc := "(II)I" } : Jvm.MethodName)) ∈ zts := zts_r 1066 (by decide +kernel) (by decide +kernel)
theorem wd_1067 : (Jvm.Cond.code ({ cls := "YoungerBackModel", name := "as", desc := "(II)I" } : Jvm.MethodName) prog_10_method_60_code (3 : Nat) (Option.some Jvm.ClassFile.FieldType.int)) ∈ zts := zts_r 1067 (by decide +kernel) (by decide +kernel)
theorem wd_1068 : (Jvm.Cond.methodLink "YoungerBackModel" (239 : Nat) ({ cls := "YoungerBackModel", name := "isOf", desc := "(II)Z" } : Jvm.MethodName)) ∈ zts := zts_r 1068 (by decide +kernel) (by decide +kernel)
theorem wd_1069 : (Jvm.Cond.static ({ cls := "YoungerBackModel", name := "isOf", desc := "(II)Z" } : Jvm.MethodName)) ∈ zts := zts_r 1069 (by decide +kernel) (by decide +kernel)
theorem wd_1070 : (Jvm.Cond.code ({ cls := "YoungerBackModel", name := "isOf", desc := "(II)Z" } : Jvm.MethodName) prog_10_method_58_code (2 : Nat) (Option.some Jvm.ClassFile.FieldType.boolean)) ∈ zts := zts_r 1070 (by decide +kernel) (by decide +kernel)
theorem wd_1071 : (Jvm.Cond.methodLink "YoungerBackLaw" (125 : Nat) ({ cls := "YoungerBackModel", name := "ask", desc := "(II)I" } : Jvm.MethodName)) ∈ zts := zts_r 1071 (by decide +kernel) (by decide +kernel)
theorem wd_1072 : (Jvm.Cond.instanceMethod ({ cls := "YoungerBackModel", name := "ask", desc := "(II)I" } : Jvm.MethodName)) ∈ zts := zts_r 1072 (by decide +kernel) (by decide +kernel)
theorem wd_1073 : (Jvm.Cond.selects "YoungerBackModel" ({ cls := "YoungerBackModel", name := "ask", desc := "(II)I" } : Jvm.MethodName) ({ cls := "YoungerBackModel", name := "ask", desc := "(II)I" } : Jvm.MethodName)) ∈ zts := zts_r 1073 (by decide +kernel) (by decide +kernel)
theorem wd_1074 : (Jvm.Cond.code ({ cls := "YoungerBackModel", name := "ask", desc := "(II)I" } : Jvm.MethodName) prog_10_method_66_code (3 : Nat) (Option.some Jvm.ClassFile.FieldType.int)) ∈ zts := zts_r 1074 (by decide +kernel) (by decide +kernel)
theorem wd_1075 : (Jvm.Cond.methodLink "YoungerBackModel" (258 : Nat) ({ cls := "YoungerBackModel", name := "sizeOf", desc := "(I)I" } : Jvm.MethodName)) ∈ zts := zts_r 1075 (by decide +kernel) (by decide +kernel)
theorem wd_1077 : (Jvm.Cond.instanceMethod ({ cls := "YoungerBackModel", name := "sizeOf", desc := "(I)I" } : Jvm.MethodName)) ∈ zts := zts_r 1077 (by decide +kernel) (by decide +kernel)
theorem wd_1078 : (Jvm.Cond.code ({ cls := "YoungerBackModel", name := "sizeOf", desc := "(I)I" } : Jvm.MethodName) prog_10_method_65_code (4 : Nat) (Option.some Jvm.ClassFile.FieldType.int)) ∈ zts := zts_r 1078 (by decide +kernel) (by decide +kernel)
theorem wd_1079 : (Jvm.Cond.methodLink "YoungerBackModel" (252 : Nat) ({ cls := "YoungerBackModel", name := "clerkSize", desc := "(I)I" } : Jvm.MethodName)) ∈ zts := zts_r 1079 (by decide +kernel) (by decide +kernel)
theorem wd_1081 : (Jvm.Cond.instanceMethod ({ cls := "YoungerBackModel", name := "clerkSize", desc := "(I)I" } : Jvm.MethodName)) ∈ zts := zts_r 1081 (by decide +kernel) (by decide +kernel)
theorem wd_1082 : (Jvm.Cond.code ({ cls := "YoungerBackModel", name := "clerkSize", desc := "(I)I" } : Jvm.MethodName) prog_10_method_63_code (3 : Nat) (Option.some Jvm.ClassFile.FieldType.int)) ∈ zts := zts_r 1082 (by decide +kernel) (by decide +kernel)
theorem wd_1083 : (Jvm.Cond.methodLink "YoungerBackModel" (246 : Nat) ({ cls := "YoungerBackModel", name := "began", desc := "(I)V" } : Jvm.MethodName)) ∈ zts := zts_r 1083 (by decide +kernel) (by decide +kernel)
theorem wd_1085 : (Jvm.Cond.instanceMethod ({ cls := "YoungerBackModel", name := "began", desc := "(I)V" } : Jvm.MethodName)) ∈ zts := zts_r 1085 (by decide +kernel) (by decide +kernel)
theorem wd_1086 : (Jvm.Cond.code ({ cls := "YoungerBackModel", name := "began", desc := "(I)V" } : Jvm.MethodName) prog_10_method_61_code (2 : Nat) (Option.none : Option Jvm.ClassFile.FieldType)) ∈ zts := zts_r 1086 (by decide +kernel) (by decide +kernel)
theorem wd_1087 : (Jvm.Cond.methodLink "YoungerBackModel" (249 : Nat) ({ cls := "YoungerBackModel", name := "plainSize", desc := "(I)I" } : Jvm.MethodName)) ∈ zts := zts_r 1087 (by decide +kernel) (by decide +kernel)
theorem wd_1089 : (Jvm.Cond.instanceMethod ({ cls := "YoungerBackModel", name := "plainSize", desc := "(I)I" } : Jvm.MethodName)) ∈ zts := zts_r 1089 (by decide +kernel) (by decide +kernel)
theorem wd_1090 : (Jvm.Cond.code ({ cls := "YoungerBackModel", name := "plainSize", desc := "(I)I" } : Jvm.MethodName) prog_10_method_62_code (2 : Nat) (Option.some Jvm.ClassFile.FieldType.int)) ∈ zts := zts_r 1090 (by decide +kernel) (by decide +kernel)
theorem wd_1091 : (Jvm.Cond.methodLink "YoungerBackModel" (255 : Nat) ({ cls := "YoungerBackModel", name := "markOf", desc := "(I)I" } : Jvm.MethodName)) ∈ zts := zts_r 1091 (by decide +kernel) (by decide +kernel)
theorem wd_1093 : (Jvm.Cond.instanceMethod ({ cls := "YoungerBackModel", name := "markOf", desc := "(I)I" } : Jvm.MethodName)) ∈ zts := zts_r 1093 (by decide +kernel) (by decide +kernel)
theorem wd_1094 : (Jvm.Cond.code ({ cls := "YoungerBackModel", name := "markOf", desc := "(I)I" } : Jvm.MethodName) prog_10_method_64_code (4 : Nat) (Option.some Jvm.ClassFile.FieldType.int)) ∈ zts := zts_r 1094 (by decide +kernel) (by decide +kernel)
theorem wd_1095 : (Jvm.Cond.methodLink "YoungerBackLaw" (129 : Nat) ({ cls := "YoungerBackModel", name := "trace", desc := "(I)I" } : Jvm.MethodName)) ∈ zts := zts_r 1095 (by decide +kernel) (by decide +kernel)
theorem wd_1096 : (Jvm.Cond.instanceMethod ({ cls := "YoungerBackModel", name := "trace", desc := "(I)I" } : Jvm.MethodName)) ∈ zts := zts_r 1096 (by decide +kernel) (by decide +kernel)
theorem wd_1097 : (Jvm.Cond.selects "YoungerBackModel" ({ cls := "YoungerBackModel", name := "trace", desc := "(I)I" } : Jvm.MethodName) ({ cls := "YoungerBackModel", name := "trace", desc := "(I)I" } : Jvm.MethodName)) ∈ zts := zts_r 1097 (by decide +kernel) (by decide +kernel)
theorem wd_1098 : (Jvm.Cond.code ({ cls := "YoungerBackModel", name := "trace", desc := "(I)I" } : Jvm.MethodName) prog_10_method_67_code (2 : Nat) (Option.some Jvm.ClassFile.FieldType.int)) ∈ zts := zts_r 1098 (by decide +kernel) (by decide +kernel)
theorem wd_1099 : (Jvm.Cond.methodLink "YoungerBackLaw" (133 : Nat) ({ cls := "YoungerBackModel", name := "count", desc := "(I)I" } : Jvm.MethodName)) ∈ zts := zts_r 1099 (by decide +kernel) (by decide +kernel)
theorem wd_1100 : (Jvm.Cond.instanceMethod ({ cls := "YoungerBackModel", name := "count", desc := "(I)I" } : Jvm.MethodName)) ∈ zts := zts_r 1100 (by decide +kernel) (by decide +kernel)
theorem wd_1101 : (Jvm.Cond.selects "YoungerBackModel" ({ cls := "YoungerBackModel", name := "count", desc := "(I)I" } : Jvm.MethodName) ({ cls := "YoungerBackModel", name := "count", desc := "(I)I" } : Jvm.MethodName)) ∈ zts := zts_r 1101 (by decide +kernel) (by decide +kernel)
theorem wd_1102 : (Jvm.Cond.code ({ cls := "YoungerBackModel", name := "count", desc := "(I)I" } : Jvm.MethodName) prog_10_method_68_code (4 : Nat) (Option.some Jvm.ClassFile.FieldType.int)) ∈ zts := zts_r 1102 (by decide +kernel) (by decide +kernel)
theorem wd_1103 : (Jvm.Cond.methodLink "YoungerBackLaw" (137 : Nat) ({ cls := "YoungerBackModel", name := "status", desc := "()I" } : Jvm.MethodName)) ∈ zts := zts_r 1103 (by decide +kernel) (by decide +kernel)
theorem wd_1104 : (Jvm.Cond.instanceMethod ({ cls := "YoungerBackModel", name := "status", desc := "()I" } : Jvm.MethodName)) ∈ zts := zts_r 1104 (by decide +kernel) (by decide +kernel)
theorem wd_1105 : (Jvm.Cond.selects "YoungerBackModel" ({ cls := "YoungerBackModel", name := "status", desc := "()I" } : Jvm.MethodName) ({ cls := "YoungerBackModel", name := "status", desc := "()I" } : Jvm.MethodName)) ∈ zts := zts_r 1105 (by decide +kernel) (by decide +kernel)
theorem wd_1106 : (Jvm.Cond.code ({ cls := "YoungerBackModel", name := "status", desc := "()I" } : Jvm.MethodName) prog_10_method_69_code (1 : Nat) (Option.some Jvm.ClassFile.FieldType.int)) ∈ zts := zts_r 1106 (by decide +kernel) (by decide +kernel)
theorem wd_1107 : (Jvm.Cond.constantLong "YoungerBackLaw" (32 : Nat) (4294967295 : Int64)) ∈ zts := zts_r 1107 (by decide +kernel) (by decide +kernel)
theorem wd_1108 : (Jvm.Cond.fieldLink "java/lang/String" (9 : Nat) "java/lang/String" "value" "[B") ∈ zts := zts_r 1108 (by decide +kernel) (by decide +kernel)
theorem wd_1109 : (Jvm.Cond.fieldLink "java/lang/String" (15 : Nat) "java/lang/String" "coder" "B") ∈ zts := zts_r 1109 (by decide +kernel) (by decide +kernel)
theorem wp_0 : Cond.selects "YoungerBack" ⟨"YoungerBack", "found", "(I)I"⟩ ⟨"YoungerBack", "found", "(I)I"⟩ ∈ zts := zts_p 0 (by decide +kernel) (by decide +kernel)
theorem wp_1 : Cond.selects "YoungerBack" ⟨"YoungerBack", "foundNothing", "(I)I"⟩ ⟨"YoungerBack", "foundNothing", "(I)I"⟩ ∈ zts := zts_p 1 (by decide +kernel) (by decide +kernel)
theorem wp_2 : Cond.selects "YoungerBack" ⟨"YoungerBack", "isMissing", "(I)Z"⟩ ⟨"YoungerBack", "isMissing", "(I)Z"⟩ ∈ zts := zts_p 2 (by decide +kernel) (by decide +kernel)
theorem wp_3 : Cond.selects "YoungerBack" ⟨"YoungerBack", "isBeyond", "(III)Z"⟩ ⟨"YoungerBack", "isBeyond", "(III)Z"⟩ ∈ zts := zts_p 3 (by decide +kernel) (by decide +kernel)
theorem wp_4 : Cond.selects "YoungerBack$Tape" ⟨"YoungerBack$Tape", "nextToken", "()V"⟩ ⟨"YoungerBack$Tape", "nextToken", "()V"⟩ ∈ zts := zts_p 4 (by decide +kernel) (by decide +kernel)
theorem wp_5 : Cond.selects "YoungerBack$Tape" ⟨"YoungerBack$Tape", "isBetween", "(II)Z"⟩ ⟨"YoungerBack$Tape", "isBetween", "(II)Z"⟩ ∈ zts := zts_p 5 (by decide +kernel) (by decide +kernel)
theorem wp_6 : Cond.selects "YoungerBack$Tape" ⟨"YoungerBack$Tape", "passRun", "(II)V"⟩ ⟨"YoungerBack$Tape", "passRun", "(II)V"⟩ ∈ zts := zts_p 6 (by decide +kernel) (by decide +kernel)
theorem wp_7 : Cond.selects "YoungerBack$Tape" ⟨"YoungerBack$Tape", "readNumber", "()V"⟩ ⟨"YoungerBack$Tape", "readNumber", "()V"⟩ ∈ zts := zts_p 7 (by decide +kernel) (by decide +kernel)
theorem wp_8 : Cond.selects "YoungerBack$Tape" ⟨"YoungerBack$Tape", "takeWord", "(Ljava/lang/String;)V"⟩ ⟨"YoungerBack$Tape", "takeWord", "(Ljava/lang/String;)V"⟩ ∈ zts := zts_p 8 (by decide +kernel) (by decide +kernel)
theorem wp_9 : Cond.selects "YoungerBack$Tape" ⟨"YoungerBack$Tape", "isWord", "(Ljava/lang/String;)Z"⟩ ⟨"YoungerBack$Tape", "isWord", "(Ljava/lang/String;)Z"⟩ ∈ zts := zts_p 9 (by decide +kernel) (by decide +kernel)
theorem wp_10 : Cond.selects "YoungerBack$Tape" ⟨"YoungerBack$Tape", "fail", "(I)V"⟩ ⟨"YoungerBack$Tape", "fail", "(I)V"⟩ ∈ zts := zts_p 10 (by decide +kernel) (by decide +kernel)
theorem wp_11 : Cond.selects "YoungerBack$Tape" ⟨"YoungerBack$Tape", "takeNumber", "(III)I"⟩ ⟨"YoungerBack$Tape", "takeNumber", "(III)I"⟩ ∈ zts := zts_p 11 (by decide +kernel) (by decide +kernel)
theorem wp_12 : Cond.selects "YoungerBack$Tape" ⟨"YoungerBack$Tape", "takeSign", "()V"⟩ ⟨"YoungerBack$Tape", "takeSign", "()V"⟩ ∈ zts := zts_p 12 (by decide +kernel) (by decide +kernel)
theorem wp_13 : Cond.selects "YoungerBack$Tape" ⟨"YoungerBack$Tape", "readWay", "(LYoungerBack$League;)V"⟩ ⟨"YoungerBack$Tape", "readWay", "(LYoungerBack$League;)V"⟩ ∈ zts := zts_p 13 (by decide +kernel) (by decide +kernel)
theorem wp_14 : Cond.selects "YoungerBack$Tape" ⟨"YoungerBack$Tape", "readPerson", "(LYoungerBack$League;)V"⟩ ⟨"YoungerBack$Tape", "readPerson", "(LYoungerBack$League;)V"⟩ ∈ zts := zts_p 14 (by decide +kernel) (by decide +kernel)
theorem wp_15 : Cond.selects "YoungerBack$Tape" ⟨"YoungerBack$Tape", "takeSort", "()I"⟩ ⟨"YoungerBack$Tape", "takeSort", "()I"⟩ ∈ zts := zts_p 15 (by decide +kernel) (by decide +kernel)
theorem wp_16 : Cond.selects "YoungerBack" ⟨"YoungerBack", "isNobody", "(I)Z"⟩ ⟨"YoungerBack", "isNobody", "(I)Z"⟩ ∈ zts := zts_p 16 (by decide +kernel) (by decide +kernel)
theorem wp_17 : Cond.selects "YoungerBack" ⟨"YoungerBack", "isNoWay", "(I)Z"⟩ ⟨"YoungerBack", "isNoWay", "(I)Z"⟩ ∈ zts := zts_p 17 (by decide +kernel) (by decide +kernel)
theorem wp_18 : Cond.selects "YoungerBack" ⟨"YoungerBack", "sailOnce", "(II)I"⟩ ⟨"YoungerBack", "sailOnce", "(II)I"⟩ ∈ zts := zts_p 18 (by decide +kernel) (by decide +kernel)
theorem wp_19 : Cond.selects "YoungerBack$Acts" ⟨"YoungerBack$Acts", "placeBehindLatest", "()I"⟩ ⟨"YoungerBack$Acts", "placeBehindLatest", "()I"⟩ ∈ zts := zts_p 19 (by decide +kernel) (by decide +kernel)
theorem wp_20 : Cond.selects "YoungerBack" ⟨"YoungerBack", "isNoHarbour", "(I)Z"⟩ ⟨"YoungerBack", "isNoHarbour", "(I)Z"⟩ ∈ zts := zts_p 20 (by decide +kernel) (by decide +kernel)
theorem wp_21 : Cond.selects "YoungerBack$Foretold" ⟨"YoungerBack$Foretold", "arrive", "(LYoungerBack$Person;LYoungerBack$Way;I)V"⟩ ⟨"YoungerBack$Foretold", "arrive", "(LYoungerBack$Person;LYoungerBack$Way;I)V"⟩ ∈ zts := zts_p 21 (by decide +kernel) (by decide +kernel)
theorem wp_22 : Cond.selects "YoungerBack$Asking" ⟨"YoungerBack$Asking", "begin", "(I)V"⟩ ⟨"YoungerBack$Asking", "begin", "(I)V"⟩ ∈ zts := zts_p 22 (by decide +kernel) (by decide +kernel)
theorem wp_23 : Cond.selects "YoungerBack$Asking" ⟨"YoungerBack$Asking", "sizeOfCaptain", "(LYoungerBack$Person;I)I"⟩ ⟨"YoungerBack$Asking", "sizeOfCaptain", "(LYoungerBack$Person;I)I"⟩ ∈ zts := zts_p 23 (by decide +kernel) (by decide +kernel)
theorem wp_24 : Cond.selects "YoungerBack$Asking" ⟨"YoungerBack$Asking", "lentSize", "(LYoungerBack$Person;)I"⟩ ⟨"YoungerBack$Asking", "lentSize", "(LYoungerBack$Person;)I"⟩ ∈ zts := zts_p 24 (by decide +kernel) (by decide +kernel)
theorem wp_25 : Cond.selects "YoungerBack$Asking" ⟨"YoungerBack$Asking", "markAmongCaptains", "(LYoungerBack$Person;I)I"⟩ ⟨"YoungerBack$Asking", "markAmongCaptains", "(LYoungerBack$Person;I)I"⟩ ∈ zts := zts_p 25 (by decide +kernel) (by decide +kernel)
theorem wp_26 : Cond.selects "YoungerBack$Asking" ⟨"YoungerBack$Asking", "markOfCaptain", "(LYoungerBack$Person;I)I"⟩ ⟨"YoungerBack$Asking", "markOfCaptain", "(LYoungerBack$Person;I)I"⟩ ∈ zts := zts_p 26 (by decide +kernel) (by decide +kernel)
theorem wp_27 : Cond.selects "YoungerBack$Asking" ⟨"YoungerBack$Asking", "lentMark", "(I)I"⟩ ⟨"YoungerBack$Asking", "lentMark", "(I)I"⟩ ∈ zts := zts_p 27 (by decide +kernel) (by decide +kernel)
theorem wp_28 : Cond.selects "YoungerBack$Asking" ⟨"YoungerBack$Asking", "sizeOfClerk", "(LYoungerBack$Person;)I"⟩ ⟨"YoungerBack$Asking", "sizeOfClerk", "(LYoungerBack$Person;)I"⟩ ∈ zts := zts_p 28 (by decide +kernel) (by decide +kernel)
theorem wp_29 : Cond.selects "YoungerBack" ⟨"YoungerBack", "rowsThere", "()I"⟩ ⟨"YoungerBack", "rowsThere", "()I"⟩ ∈ zts := zts_p 29 (by decide +kernel) (by decide +kernel)
theorem wp_30 : Cond.selects "YoungerBackModel" ⟨"YoungerBackModel", "finding", "(I)I"⟩ ⟨"YoungerBackModel", "finding", "(I)I"⟩ ∈ zts := zts_p 30 (by decide +kernel) (by decide +kernel)
theorem wp_31 : Cond.selects "YoungerBackModel" ⟨"YoungerBackModel", "begin", "()V"⟩ ⟨"YoungerBackModel", "begin", "()V"⟩ ∈ zts := zts_p 31 (by decide +kernel) (by decide +kernel)
theorem wp_32 : Cond.selects "YoungerBackModel" ⟨"YoungerBackModel", "next", "()V"⟩ ⟨"YoungerBackModel", "next", "()V"⟩ ∈ zts := zts_p 32 (by decide +kernel) (by decide +kernel)
theorem wp_33 : Cond.selects "YoungerBackModel" ⟨"YoungerBackModel", "byteAt", "(I)I"⟩ ⟨"YoungerBackModel", "byteAt", "(I)I"⟩ ∈ zts := zts_p 33 (by decide +kernel) (by decide +kernel)
theorem wp_34 : Cond.selects "YoungerBackModel" ⟨"YoungerBackModel", "name", "()J"⟩ ⟨"YoungerBackModel", "name", "()J"⟩ ∈ zts := zts_p 34 (by decide +kernel) (by decide +kernel)
theorem wp_35 : Cond.selects "YoungerBackModel" ⟨"YoungerBackModel", "must", "(Z)V"⟩ ⟨"YoungerBackModel", "must", "(Z)V"⟩ ∈ zts := zts_p 35 (by decide +kernel) (by decide +kernel)
theorem wp_36 : Cond.selects "YoungerBackModel" ⟨"YoungerBackModel", "bad", "(I)V"⟩ ⟨"YoungerBackModel", "bad", "(I)V"⟩ ∈ zts := zts_p 36 (by decide +kernel) (by decide +kernel)
theorem wp_37 : Cond.selects "YoungerBackModel" ⟨"YoungerBackModel", "number", "(II)I"⟩ ⟨"YoungerBackModel", "number", "(II)I"⟩ ∈ zts := zts_p 37 (by decide +kernel) (by decide +kernel)
theorem wp_38 : Cond.selects "YoungerBackModel" ⟨"YoungerBackModel", "figures", "()I"⟩ ⟨"YoungerBackModel", "figures", "()I"⟩ ∈ zts := zts_p 38 (by decide +kernel) (by decide +kernel)
theorem wp_39 : Cond.selects "YoungerBackModel" ⟨"YoungerBackModel", "mustEnd", "()V"⟩ ⟨"YoungerBackModel", "mustEnd", "()V"⟩ ∈ zts := zts_p 39 (by decide +kernel) (by decide +kernel)
theorem wp_40 : Cond.selects "YoungerBackModel" ⟨"YoungerBackModel", "readWay", "()V"⟩ ⟨"YoungerBackModel", "readWay", "()V"⟩ ∈ zts := zts_p 40 (by decide +kernel) (by decide +kernel)
theorem wp_41 : Cond.selects "YoungerBackModel" ⟨"YoungerBackModel", "begins", "(II)V"⟩ ⟨"YoungerBackModel", "begins", "(II)V"⟩ ∈ zts := zts_p 41 (by decide +kernel) (by decide +kernel)
theorem wp_42 : Cond.selects "YoungerBackModel" ⟨"YoungerBackModel", "readPerson", "()V"⟩ ⟨"YoungerBackModel", "readPerson", "()V"⟩ ∈ zts := zts_p 42 (by decide +kernel) (by decide +kernel)
theorem wp_43 : Cond.selects "YoungerBackModel" ⟨"YoungerBackModel", "isPerson", "(I)Z"⟩ ⟨"YoungerBackModel", "isPerson", "(I)Z"⟩ ∈ zts := zts_p 43 (by decide +kernel) (by decide +kernel)
theorem wp_44 : Cond.selects "YoungerBackModel" ⟨"YoungerBackModel", "isWay", "(I)Z"⟩ ⟨"YoungerBackModel", "isWay", "(I)Z"⟩ ∈ zts := zts_p 44 (by decide +kernel) (by decide +kernel)
theorem wp_45 : Cond.selects "YoungerBackModel" ⟨"YoungerBackModel", "goes", "(II)I"⟩ ⟨"YoungerBackModel", "goes", "(II)I"⟩ ∈ zts := zts_p 45 (by decide +kernel) (by decide +kernel)
theorem wp_46 : Cond.selects "YoungerBackModel" ⟨"YoungerBackModel", "of", "(II)I"⟩ ⟨"YoungerBackModel", "of", "(II)I"⟩ ∈ zts := zts_p 46 (by decide +kernel) (by decide +kernel)
theorem wp_47 : Cond.selects "YoungerBackModel" ⟨"YoungerBackModel", "endOf", "(III)I"⟩ ⟨"YoungerBackModel", "endOf", "(III)I"⟩ ∈ zts := zts_p 47 (by decide +kernel) (by decide +kernel)
theorem wp_48 : Cond.selects "YoungerBackModel" ⟨"YoungerBackModel", "wayOf", "(II)I"⟩ ⟨"YoungerBackModel", "wayOf", "(II)I"⟩ ∈ zts := zts_p 48 (by decide +kernel) (by decide +kernel)
theorem wp_49 : Cond.selects "YoungerBackModel" ⟨"YoungerBackModel", "keep", "()V"⟩ ⟨"YoungerBackModel", "keep", "()V"⟩ ∈ zts := zts_p 49 (by decide +kernel) (by decide +kernel)
theorem wp_50 : Cond.selects "YoungerBackModel" ⟨"YoungerBackModel", "agesBy", "(II)I"⟩ ⟨"YoungerBackModel", "agesBy", "(II)I"⟩ ∈ zts := zts_p 50 (by decide +kernel) (by decide +kernel)
theorem wp_51 : Cond.selects "YoungerBackModel" ⟨"YoungerBackModel", "ages", "(III)V"⟩ ⟨"YoungerBackModel", "ages", "(III)V"⟩ ∈ zts := zts_p 51 (by decide +kernel) (by decide +kernel)
theorem wp_52 : Cond.selects "YoungerBackModel" ⟨"YoungerBackModel", "owedBy", "(II)I"⟩ ⟨"YoungerBackModel", "owedBy", "(II)I"⟩ ∈ zts := zts_p 52 (by decide +kernel) (by decide +kernel)
theorem wp_53 : Cond.selects "YoungerBackModel" ⟨"YoungerBackModel", "grown", "(II)I"⟩ ⟨"YoungerBackModel", "grown", "(II)I"⟩ ∈ zts := zts_p 53 (by decide +kernel) (by decide +kernel)
theorem wp_54 : Cond.selects "YoungerBackModel" ⟨"YoungerBackModel", "isHarbour", "(I)Z"⟩ ⟨"YoungerBackModel", "isHarbour", "(I)Z"⟩ ∈ zts := zts_p 54 (by decide +kernel) (by decide +kernel)
theorem wp_55 : Cond.selects "YoungerBackModel" ⟨"YoungerBackModel", "layGains", "(I)V"⟩ ⟨"YoungerBackModel", "layGains", "(I)V"⟩ ∈ zts := zts_p 55 (by decide +kernel) (by decide +kernel)
theorem wp_56 : Cond.selects "YoungerBackModel" ⟨"YoungerBackModel", "isThere", "()Z"⟩ ⟨"YoungerBackModel", "isThere", "()Z"⟩ ∈ zts := zts_p 56 (by decide +kernel) (by decide +kernel)
theorem wp_57 : Cond.selects "YoungerBackModel" ⟨"YoungerBackModel", "sizeOf", "(I)I"⟩ ⟨"YoungerBackModel", "sizeOf", "(I)I"⟩ ∈ zts := zts_p 57 (by decide +kernel) (by decide +kernel)
theorem wp_58 : Cond.selects "YoungerBackModel" ⟨"YoungerBackModel", "clerkSize", "(I)I"⟩ ⟨"YoungerBackModel", "clerkSize", "(I)I"⟩ ∈ zts := zts_p 58 (by decide +kernel) (by decide +kernel)
theorem wp_59 : Cond.selects "YoungerBackModel" ⟨"YoungerBackModel", "began", "(I)V"⟩ ⟨"YoungerBackModel", "began", "(I)V"⟩ ∈ zts := zts_p 59 (by decide +kernel) (by decide +kernel)
theorem wp_60 : Cond.selects "YoungerBackModel" ⟨"YoungerBackModel", "plainSize", "(I)I"⟩ ⟨"YoungerBackModel", "plainSize", "(I)I"⟩ ∈ zts := zts_p 60 (by decide +kernel) (by decide +kernel)
theorem wp_61 : Cond.selects "YoungerBackModel" ⟨"YoungerBackModel", "markOf", "(I)I"⟩ ⟨"YoungerBackModel", "markOf", "(I)I"⟩ ∈ zts := zts_p 61 (by decide +kernel) (by decide +kernel)
theorem zin0 : ∀ w ∈ u_ws RX0 TX0 3, w ∈ zts := by
  intro w hw
  obtain ⟨k, hk, rfl⟩ := List.mem_map.mp hw
  match k, List.mem_range.mp hk with
  | 0, _ => exact wd_189
  | 1, _ => exact wd_191
  | 2, _ => exact wd_193
  | k + 3, h => exact absurd h (by omega)
theorem zin1 : ∀ w ∈ u_ws RX1 TX1 2, w ∈ zts := by
  intro w hw
  obtain ⟨k, hk, rfl⟩ := List.mem_map.mp hw
  match k, List.mem_range.mp hk with
  | 0, _ => exact wd_218
  | 1, _ => exact wd_220
  | k + 2, h => exact absurd h (by omega)
theorem zin2 : ∀ w ∈ u_ws RX2 TX2 1, w ∈ zts := by
  intro w hw
  obtain ⟨k, hk, rfl⟩ := List.mem_map.mp hw
  match k, List.mem_range.mp hk with
  | 0, _ => exact wd_204
  | k + 1, h => exact absurd h (by omega)
theorem zin3 : ∀ w ∈ u_ws RX3 TX3 6, w ∈ zts := by
  intro w hw
  obtain ⟨k, hk, rfl⟩ := List.mem_map.mp hw
  match k, List.mem_range.mp hk with
  | 0, _ => exact wd_163
  | 1, _ => exact wd_165
  | 2, _ => exact wd_167
  | 3, _ => exact wd_169
  | 4, _ => exact wd_171
  | 5, _ => exact wd_173
  | k + 6, h => exact absurd h (by omega)
theorem zin4 : ∀ w ∈ u_ws RX4 TX4 8, w ∈ zts := by
  intro w hw
  obtain ⟨k, hk, rfl⟩ := List.mem_map.mp hw
  match k, List.mem_range.mp hk with
  | 0, _ => exact wd_125
  | 1, _ => exact wd_127
  | 2, _ => exact wd_129
  | 3, _ => exact wd_131
  | 4, _ => exact wd_133
  | 5, _ => exact wd_135
  | 6, _ => exact wd_137
  | 7, _ => exact wd_139
  | k + 8, h => exact absurd h (by omega)
theorem zin5 : ∀ w ∈ u_ws RX5 TX5 8, w ∈ zts := by
  intro w hw
  obtain ⟨k, hk, rfl⟩ := List.mem_map.mp hw
  match k, List.mem_range.mp hk with
  | 0, _ => exact wd_45
  | 1, _ => exact wd_47
  | 2, _ => exact wd_49
  | 3, _ => exact wd_51
  | 4, _ => exact wd_53
  | 5, _ => exact wd_55
  | 6, _ => exact wd_57
  | 7, _ => exact wd_59
  | k + 8, h => exact absurd h (by omega)
theorem zin6 : ∀ w ∈ u_ws RX6 TX6 4, w ∈ zts := by
  intro w hw
  obtain ⟨k, hk, rfl⟩ := List.mem_map.mp hw
  match k, List.mem_range.mp hk with
  | 0, _ => exact wd_94
  | 1, _ => exact wd_96
  | 2, _ => exact wd_98
  | 3, _ => exact wd_100
  | k + 4, h => exact absurd h (by omega)
theorem zin7 : ∀ w ∈ u_ws RX7 TX7 15, w ∈ zts := by
  intro w hw
  obtain ⟨k, hk, rfl⟩ := List.mem_map.mp hw
  match k, List.mem_range.mp hk with
  | 0, _ => exact wd_238
  | 1, _ => exact wd_240
  | 2, _ => exact wd_242
  | 3, _ => exact wd_244
  | 4, _ => exact wd_246
  | 5, _ => exact wd_248
  | 6, _ => exact wd_250
  | 7, _ => exact wd_252
  | 8, _ => exact wd_254
  | 9, _ => exact wd_256
  | 10, _ => exact wd_258
  | 11, _ => exact wd_260
  | 12, _ => exact wd_262
  | 13, _ => exact wd_264
  | 14, _ => exact wd_266
  | k + 15, h => exact absurd h (by omega)
theorem zin8 : ∀ w ∈ u_ws RX8 TX8 25, w ∈ zts := by
  intro w hw
  obtain ⟨k, hk, rfl⟩ := List.mem_map.mp hw
  match k, List.mem_range.mp hk with
  | 0, _ => exact wd_768
  | 1, _ => exact wd_770
  | 2, _ => exact wd_772
  | 3, _ => exact wd_774
  | 4, _ => exact wd_776
  | 5, _ => exact wd_778
  | 6, _ => exact wd_780
  | 7, _ => exact wd_782
  | 8, _ => exact wd_784
  | 9, _ => exact wd_786
  | 10, _ => exact wd_788
  | 11, _ => exact wd_790
  | 12, _ => exact wd_792
  | 13, _ => exact wd_794
  | 14, _ => exact wd_796
  | 15, _ => exact wd_798
  | 16, _ => exact wd_800
  | 17, _ => exact wd_802
  | 18, _ => exact wd_804
  | 19, _ => exact wd_806
  | 20, _ => exact wd_808
  | 21, _ => exact wd_810
  | 22, _ => exact wd_812
  | 23, _ => exact wd_814
  | 24, _ => exact wd_816
  | k + 25, h => exact absurd h (by omega)
end
section
theorem dX0_init_0 : decode cX0_init 0 = .ok (.aload_n 0, 1) := by decide +kernel
theorem dX0_init_1 : decode cX0_init 1 = .ok (.invokespecial 3, 3) := by decide +kernel
theorem dX0_init_4 : decode cX0_init 4 = .ok (.aload_n 0, 1) := by decide +kernel
theorem dX0_init_5 : decode cX0_init 5 = .ok (.bipush 96, 2) := by decide +kernel
theorem dX0_init_7 : decode cX0_init 7 = .ok (.anewarray 9, 3) := by decide +kernel
theorem dX0_init_10 : decode cX0_init 10 = .ok (.putfield 11, 3) := by decide +kernel
theorem dX0_init_13 : decode cX0_init 13 = .ok (.aload_n 0, 1) := by decide +kernel
theorem dX0_init_14 : decode cX0_init 14 = .ok (.iconst 0, 1) := by decide +kernel
theorem dX0_init_15 : decode cX0_init 15 = .ok (.putfield 17, 3) := by decide +kernel
theorem dX0_init_18 : decode cX0_init 18 = .ok (.aload_n 0, 1) := by decide +kernel
theorem dX0_init_19 : decode cX0_init 19 = .ok (.iconst 0, 1) := by decide +kernel
theorem dX0_init_20 : decode cX0_init 20 = .ok (.putfield 21, 3) := by decide +kernel
theorem dX0_init_23 : decode cX0_init 23 = .ok (.iconst 0, 1) := by decide +kernel
theorem dX0_init_24 : decode cX0_init 24 = .ok (.istore_n 1, 1) := by decide +kernel
theorem dX0_init_25 : decode cX0_init 25 = .ok (.iload_n 1, 1) := by decide +kernel
theorem dX0_init_26 : decode cX0_init 26 = .ok (.bipush 96, 2) := by decide +kernel
theorem dX0_init_28 : decode cX0_init 28 = .ok (.if_icmp .ge 22, 3) := by decide +kernel
theorem dX0_init_31 : decode cX0_init 31 = .ok (.aload_n 0, 1) := by decide +kernel
theorem dX0_init_32 : decode cX0_init 32 = .ok (.getfield 11, 3) := by decide +kernel
theorem dX0_init_35 : decode cX0_init 35 = .ok (.iload_n 1, 1) := by decide +kernel
theorem dX0_init_36 : decode cX0_init 36 = .ok (.new 9, 3) := by decide +kernel
theorem dX0_init_39 : decode cX0_init 39 = .ok (.dup, 1) := by decide +kernel
theorem dX0_init_40 : decode cX0_init 40 = .ok (.invokespecial 24, 3) := by decide +kernel
theorem dX0_init_43 : decode cX0_init 43 = .ok (.aastore, 1) := by decide +kernel
theorem dX0_init_44 : decode cX0_init 44 = .ok (.iinc 1 1, 3) := by decide +kernel
theorem dX0_init_47 : decode cX0_init 47 = .ok (.goto (-22), 3) := by decide +kernel
theorem dX0_init_50 : decode cX0_init 50 = .ok (.return_, 1) := by decide +kernel
theorem dX0_forget_0 : decode cX0_forget 0 = .ok (.aload_n 0, 1) := by decide +kernel
theorem dX0_forget_1 : decode cX0_forget 1 = .ok (.iconst 0, 1) := by decide +kernel
theorem dX0_forget_2 : decode cX0_forget 2 = .ok (.putfield 17, 3) := by decide +kernel
theorem dX0_forget_5 : decode cX0_forget 5 = .ok (.aload_n 0, 1) := by decide +kernel
theorem dX0_forget_6 : decode cX0_forget 6 = .ok (.iconst 0, 1) := by decide +kernel
theorem dX0_forget_7 : decode cX0_forget 7 = .ok (.putfield 21, 3) := by decide +kernel
theorem dX0_forget_10 : decode cX0_forget 10 = .ok (.return_, 1) := by decide +kernel
theorem dX0_keep_0 : decode cX0_keep 0 = .ok (.aload_n 0, 1) := by decide +kernel
theorem dX0_keep_1 : decode cX0_keep 1 = .ok (.getfield 21, 3) := by decide +kernel
theorem dX0_keep_4 : decode cX0_keep 4 = .ok (.bipush 24, 2) := by decide +kernel
theorem dX0_keep_6 : decode cX0_keep 6 = .ok (.if_icmp .ne 26, 3) := by decide +kernel
theorem dX0_keep_9 : decode cX0_keep 9 = .ok (.aload_n 0, 1) := by decide +kernel
theorem dX0_keep_10 : decode cX0_keep 10 = .ok (.aload_n 0, 1) := by decide +kernel
theorem dX0_keep_11 : decode cX0_keep 11 = .ok (.getfield 17, 3) := by decide +kernel
theorem dX0_keep_14 : decode cX0_keep 14 = .ok (.iconst 1, 1) := by decide +kernel
theorem dX0_keep_15 : decode cX0_keep 15 = .ok (.iadd, 1) := by decide +kernel
theorem dX0_keep_16 : decode cX0_keep 16 = .ok (.bipush 24, 2) := by decide +kernel
theorem dX0_keep_18 : decode cX0_keep 18 = .ok (.irem, 1) := by decide +kernel
theorem dX0_keep_19 : decode cX0_keep 19 = .ok (.putfield 17, 3) := by decide +kernel
theorem dX0_keep_22 : decode cX0_keep 22 = .ok (.aload_n 0, 1) := by decide +kernel
theorem dX0_keep_23 : decode cX0_keep 23 = .ok (.dup, 1) := by decide +kernel
theorem dX0_keep_24 : decode cX0_keep 24 = .ok (.getfield 21, 3) := by decide +kernel
theorem dX0_keep_27 : decode cX0_keep 27 = .ok (.iconst 1, 1) := by decide +kernel
theorem dX0_keep_28 : decode cX0_keep 28 = .ok (.isub, 1) := by decide +kernel
theorem dX0_keep_29 : decode cX0_keep 29 = .ok (.putfield 21, 3) := by decide +kernel
theorem dX0_keep_32 : decode cX0_keep 32 = .ok (.aload_n 0, 1) := by decide +kernel
theorem dX0_keep_33 : decode cX0_keep 33 = .ok (.invokevirtual 25, 3) := by decide +kernel
theorem dX0_keep_36 : decode cX0_keep 36 = .ok (.istore_n 2, 1) := by decide +kernel
theorem dX0_keep_37 : decode cX0_keep 37 = .ok (.iconst 0, 1) := by decide +kernel
theorem dX0_keep_38 : decode cX0_keep 38 = .ok (.istore_n 3, 1) := by decide +kernel
theorem dX0_keep_39 : decode cX0_keep 39 = .ok (.iload_n 3, 1) := by decide +kernel
theorem dX0_keep_40 : decode cX0_keep 40 = .ok (.iconst 4, 1) := by decide +kernel
theorem dX0_keep_41 : decode cX0_keep 41 = .ok (.if_icmp .ge 26, 3) := by decide +kernel
theorem dX0_keep_44 : decode cX0_keep 44 = .ok (.aload_n 0, 1) := by decide +kernel
theorem dX0_keep_45 : decode cX0_keep 45 = .ok (.getfield 11, 3) := by decide +kernel
theorem dX0_keep_48 : decode cX0_keep 48 = .ok (.iload_n 2, 1) := by decide +kernel
theorem dX0_keep_49 : decode cX0_keep 49 = .ok (.iload_n 3, 1) := by decide +kernel
theorem dX0_keep_50 : decode cX0_keep 50 = .ok (.iadd, 1) := by decide +kernel
theorem dX0_keep_51 : decode cX0_keep 51 = .ok (.aaload, 1) := by decide +kernel
theorem dX0_keep_52 : decode cX0_keep 52 = .ok (.aload_n 1, 1) := by decide +kernel
theorem dX0_keep_53 : decode cX0_keep 53 = .ok (.getfield 29, 3) := by decide +kernel
theorem dX0_keep_56 : decode cX0_keep 56 = .ok (.iload_n 3, 1) := by decide +kernel
theorem dX0_keep_57 : decode cX0_keep 57 = .ok (.aaload, 1) := by decide +kernel
theorem dX0_keep_58 : decode cX0_keep 58 = .ok (.invokevirtual 34, 3) := by decide +kernel
theorem dX0_keep_61 : decode cX0_keep 61 = .ok (.iinc 3 1, 3) := by decide +kernel
theorem dX0_keep_64 : decode cX0_keep 64 = .ok (.goto (-25), 3) := by decide +kernel
theorem dX0_keep_67 : decode cX0_keep 67 = .ok (.aload_n 0, 1) := by decide +kernel
theorem dX0_keep_68 : decode cX0_keep 68 = .ok (.dup, 1) := by decide +kernel
theorem dX0_keep_69 : decode cX0_keep 69 = .ok (.getfield 21, 3) := by decide +kernel
theorem dX0_keep_72 : decode cX0_keep 72 = .ok (.iconst 1, 1) := by decide +kernel
theorem dX0_keep_73 : decode cX0_keep 73 = .ok (.iadd, 1) := by decide +kernel
theorem dX0_keep_74 : decode cX0_keep 74 = .ok (.putfield 21, 3) := by decide +kernel
theorem dX0_keep_77 : decode cX0_keep 77 = .ok (.return_, 1) := by decide +kernel
theorem dX0_takeBack_0 : decode cX0_takeBack 0 = .ok (.aload_n 0, 1) := by decide +kernel
theorem dX0_takeBack_1 : decode cX0_takeBack 1 = .ok (.getfield 21, 3) := by decide +kernel
theorem dX0_takeBack_4 : decode cX0_takeBack 4 = .ok (.ifCond .ne 4, 3) := by decide +kernel
theorem dX0_takeBack_7 : decode cX0_takeBack 7 = .ok (.return_, 1) := by decide +kernel
theorem dX0_takeBack_8 : decode cX0_takeBack 8 = .ok (.aload_n 0, 1) := by decide +kernel
theorem dX0_takeBack_9 : decode cX0_takeBack 9 = .ok (.dup, 1) := by decide +kernel
theorem dX0_takeBack_10 : decode cX0_takeBack 10 = .ok (.getfield 21, 3) := by decide +kernel
theorem dX0_takeBack_13 : decode cX0_takeBack 13 = .ok (.iconst 1, 1) := by decide +kernel
theorem dX0_takeBack_14 : decode cX0_takeBack 14 = .ok (.isub, 1) := by decide +kernel
theorem dX0_takeBack_15 : decode cX0_takeBack 15 = .ok (.putfield 21, 3) := by decide +kernel
theorem dX0_takeBack_18 : decode cX0_takeBack 18 = .ok (.aload_n 0, 1) := by decide +kernel
theorem dX0_takeBack_19 : decode cX0_takeBack 19 = .ok (.invokevirtual 25, 3) := by decide +kernel
theorem dX0_takeBack_22 : decode cX0_takeBack 22 = .ok (.istore_n 2, 1) := by decide +kernel
theorem dX0_takeBack_23 : decode cX0_takeBack 23 = .ok (.iconst 0, 1) := by decide +kernel
theorem dX0_takeBack_24 : decode cX0_takeBack 24 = .ok (.istore_n 3, 1) := by decide +kernel
theorem dX0_takeBack_25 : decode cX0_takeBack 25 = .ok (.iload_n 3, 1) := by decide +kernel
theorem dX0_takeBack_26 : decode cX0_takeBack 26 = .ok (.iconst 4, 1) := by decide +kernel
theorem dX0_takeBack_27 : decode cX0_takeBack 27 = .ok (.if_icmp .ge 26, 3) := by decide +kernel
theorem dX0_takeBack_30 : decode cX0_takeBack 30 = .ok (.aload_n 1, 1) := by decide +kernel
theorem dX0_takeBack_31 : decode cX0_takeBack 31 = .ok (.getfield 29, 3) := by decide +kernel
theorem dX0_takeBack_34 : decode cX0_takeBack 34 = .ok (.iload_n 3, 1) := by decide +kernel
theorem dX0_takeBack_35 : decode cX0_takeBack 35 = .ok (.aaload, 1) := by decide +kernel
theorem dX0_takeBack_36 : decode cX0_takeBack 36 = .ok (.aload_n 0, 1) := by decide +kernel
theorem dX0_takeBack_37 : decode cX0_takeBack 37 = .ok (.getfield 11, 3) := by decide +kernel
theorem dX0_takeBack_40 : decode cX0_takeBack 40 = .ok (.iload_n 2, 1) := by decide +kernel
theorem dX0_takeBack_41 : decode cX0_takeBack 41 = .ok (.iload_n 3, 1) := by decide +kernel
theorem dX0_takeBack_42 : decode cX0_takeBack 42 = .ok (.iadd, 1) := by decide +kernel
theorem dX0_takeBack_43 : decode cX0_takeBack 43 = .ok (.aaload, 1) := by decide +kernel
theorem dX0_takeBack_44 : decode cX0_takeBack 44 = .ok (.invokevirtual 34, 3) := by decide +kernel
theorem dX0_takeBack_47 : decode cX0_takeBack 47 = .ok (.iinc 3 1, 3) := by decide +kernel
theorem dX0_takeBack_50 : decode cX0_takeBack 50 = .ok (.goto (-25), 3) := by decide +kernel
theorem dX0_takeBack_53 : decode cX0_takeBack 53 = .ok (.return_, 1) := by decide +kernel
theorem dX0_placeBehindLatest_0 : decode cX0_placeBehindLatest 0 = .ok (.aload_n 0, 1) := by decide +kernel
theorem dX0_placeBehindLatest_1 : decode cX0_placeBehindLatest 1 = .ok (.getfield 17, 3) := by decide +kernel
theorem dX0_placeBehindLatest_4 : decode cX0_placeBehindLatest 4 = .ok (.aload_n 0, 1) := by decide +kernel
theorem dX0_placeBehindLatest_5 : decode cX0_placeBehindLatest 5 = .ok (.getfield 21, 3) := by decide +kernel
theorem dX0_placeBehindLatest_8 : decode cX0_placeBehindLatest 8 = .ok (.iadd, 1) := by decide +kernel
theorem dX0_placeBehindLatest_9 : decode cX0_placeBehindLatest 9 = .ok (.bipush 24, 2) := by decide +kernel
theorem dX0_placeBehindLatest_11 : decode cX0_placeBehindLatest 11 = .ok (.irem, 1) := by decide +kernel
theorem dX0_placeBehindLatest_12 : decode cX0_placeBehindLatest 12 = .ok (.iconst 4, 1) := by decide +kernel
theorem dX0_placeBehindLatest_13 : decode cX0_placeBehindLatest 13 = .ok (.imul, 1) := by decide +kernel
theorem dX0_placeBehindLatest_14 : decode cX0_placeBehindLatest 14 = .ok (.ireturn, 1) := by decide +kernel
theorem dX1_init_0 : decode cX1_init 0 = .ok (.aload_n 0, 1) := by decide +kernel
theorem dX1_init_1 : decode cX1_init 1 = .ok (.invokespecial 3, 3) := by decide +kernel
theorem dX1_init_4 : decode cX1_init 4 = .ok (.aload_n 0, 1) := by decide +kernel
theorem dX1_init_5 : decode cX1_init 5 = .ok (.bipush 16, 2) := by decide +kernel
theorem dX1_init_7 : decode cX1_init 7 = .ok (.newarray .int, 2) := by decide +kernel
theorem dX1_init_9 : decode cX1_init 9 = .ok (.putfield 9, 3) := by decide +kernel
theorem dX1_init_12 : decode cX1_init 12 = .ok (.aload_n 0, 1) := by decide +kernel
theorem dX1_init_13 : decode cX1_init 13 = .ok (.iconst 0, 1) := by decide +kernel
theorem dX1_init_14 : decode cX1_init 14 = .ok (.putfield 15, 3) := by decide +kernel
theorem dX1_init_17 : decode cX1_init 17 = .ok (.return_, 1) := by decide +kernel
theorem dX1_begin_0 : decode cX1_begin 0 = .ok (.aload_n 0, 1) := by decide +kernel
theorem dX1_begin_1 : decode cX1_begin 1 = .ok (.getfield 15, 3) := by decide +kernel
theorem dX1_begin_4 : decode cX1_begin 4 = .ok (.bipush 16, 2) := by decide +kernel
theorem dX1_begin_6 : decode cX1_begin 6 = .ok (.if_icmp .ge 23, 3) := by decide +kernel
theorem dX1_begin_9 : decode cX1_begin 9 = .ok (.aload_n 0, 1) := by decide +kernel
theorem dX1_begin_10 : decode cX1_begin 10 = .ok (.getfield 9, 3) := by decide +kernel
theorem dX1_begin_13 : decode cX1_begin 13 = .ok (.aload_n 0, 1) := by decide +kernel
theorem dX1_begin_14 : decode cX1_begin 14 = .ok (.getfield 15, 3) := by decide +kernel
theorem dX1_begin_17 : decode cX1_begin 17 = .ok (.iload_n 1, 1) := by decide +kernel
theorem dX1_begin_18 : decode cX1_begin 18 = .ok (.iastore, 1) := by decide +kernel
theorem dX1_begin_19 : decode cX1_begin 19 = .ok (.aload_n 0, 1) := by decide +kernel
theorem dX1_begin_20 : decode cX1_begin 20 = .ok (.dup, 1) := by decide +kernel
theorem dX1_begin_21 : decode cX1_begin 21 = .ok (.getfield 15, 3) := by decide +kernel
theorem dX1_begin_24 : decode cX1_begin 24 = .ok (.iconst 1, 1) := by decide +kernel
theorem dX1_begin_25 : decode cX1_begin 25 = .ok (.iadd, 1) := by decide +kernel
theorem dX1_begin_26 : decode cX1_begin 26 = .ok (.putfield 15, 3) := by decide +kernel
theorem dX1_begin_29 : decode cX1_begin 29 = .ok (.return_, 1) := by decide +kernel
theorem dX1_size_0 : decode cX1_size 0 = .ok (.aload_n 1, 1) := by decide +kernel
theorem dX1_size_1 : decode cX1_size 1 = .ok (.getfield 19, 3) := by decide +kernel
theorem dX1_size_4 : decode cX1_size 4 = .ok (.tableswitch 66 2 5 #[32, 66, 46, 52], 32) := by decide +kernel
theorem dX1_size_36 : decode cX1_size 36 = .ok (.aload_n 0, 1) := by decide +kernel
theorem dX1_size_37 : decode cX1_size 37 = .ok (.bipush 12, 2) := by decide +kernel
theorem dX1_size_39 : decode cX1_size 39 = .ok (.invokevirtual 24, 3) := by decide +kernel
theorem dX1_size_42 : decode cX1_size 42 = .ok (.aload_n 0, 1) := by decide +kernel
theorem dX1_size_43 : decode cX1_size 43 = .ok (.aload_n 1, 1) := by decide +kernel
theorem dX1_size_44 : decode cX1_size 44 = .ok (.iload_n 2, 1) := by decide +kernel
theorem dX1_size_45 : decode cX1_size 45 = .ok (.invokevirtual 28, 3) := by decide +kernel
theorem dX1_size_48 : decode cX1_size 48 = .ok (.ineg, 1) := by decide +kernel
theorem dX1_size_49 : decode cX1_size 49 = .ok (.ireturn, 1) := by decide +kernel
theorem dX1_size_50 : decode cX1_size 50 = .ok (.aload_n 0, 1) := by decide +kernel
theorem dX1_size_51 : decode cX1_size 51 = .ok (.aload_n 1, 1) := by decide +kernel
theorem dX1_size_52 : decode cX1_size 52 = .ok (.invokevirtual 32, 3) := by decide +kernel
theorem dX1_size_55 : decode cX1_size 55 = .ok (.ireturn, 1) := by decide +kernel
theorem dX1_size_56 : decode cX1_size 56 = .ok (.aload_n 0, 1) := by decide +kernel
theorem dX1_size_57 : decode cX1_size 57 = .ok (.bipush 14, 2) := by decide +kernel
theorem dX1_size_59 : decode cX1_size 59 = .ok (.invokevirtual 24, 3) := by decide +kernel
theorem dX1_size_62 : decode cX1_size 62 = .ok (.iconst 2, 1) := by decide +kernel
theorem dX1_size_63 : decode cX1_size 63 = .ok (.aload_n 0, 1) := by decide +kernel
theorem dX1_size_64 : decode cX1_size 64 = .ok (.aload_n 1, 1) := by decide +kernel
theorem dX1_size_65 : decode cX1_size 65 = .ok (.invokevirtual 32, 3) := by decide +kernel
theorem dX1_size_68 : decode cX1_size 68 = .ok (.imul, 1) := by decide +kernel
theorem dX1_size_69 : decode cX1_size 69 = .ok (.ireturn, 1) := by decide +kernel
theorem dX1_size_70 : decode cX1_size 70 = .ok (.aload_n 0, 1) := by decide +kernel
theorem dX1_size_71 : decode cX1_size 71 = .ok (.aload_n 1, 1) := by decide +kernel
theorem dX1_size_72 : decode cX1_size 72 = .ok (.iload_n 2, 1) := by decide +kernel
theorem dX1_size_73 : decode cX1_size 73 = .ok (.invokevirtual 28, 3) := by decide +kernel
theorem dX1_size_76 : decode cX1_size 76 = .ok (.ireturn, 1) := by decide +kernel
theorem dX1_mark_0 : decode cX1_mark 0 = .ok (.aload_n 1, 1) := by decide +kernel
theorem dX1_mark_1 : decode cX1_mark 1 = .ok (.getfield 19, 3) := by decide +kernel
theorem dX1_mark_4 : decode cX1_mark 4 = .ok (.iconst 4, 1) := by decide +kernel
theorem dX1_mark_5 : decode cX1_mark 5 = .ok (.invokestatic 36, 3) := by decide +kernel
theorem dX1_mark_8 : decode cX1_mark 8 = .ok (.ifCond .ne 10, 3) := by decide +kernel
theorem dX1_mark_11 : decode cX1_mark 11 = .ok (.aload_n 0, 1) := by decide +kernel
theorem dX1_mark_12 : decode cX1_mark 12 = .ok (.aload_n 1, 1) := by decide +kernel
theorem dX1_mark_13 : decode cX1_mark 13 = .ok (.iload_n 2, 1) := by decide +kernel
theorem dX1_mark_14 : decode cX1_mark 14 = .ok (.invokevirtual 40, 3) := by decide +kernel
theorem dX1_mark_17 : decode cX1_mark 17 = .ok (.ireturn, 1) := by decide +kernel
theorem dX1_mark_18 : decode cX1_mark 18 = .ok (.aload_n 0, 1) := by decide +kernel
theorem dX1_mark_19 : decode cX1_mark 19 = .ok (.bipush 23, 2) := by decide +kernel
theorem dX1_mark_21 : decode cX1_mark 21 = .ok (.invokevirtual 24, 3) := by decide +kernel
theorem dX1_mark_24 : decode cX1_mark 24 = .ok (.aload_n 0, 1) := by decide +kernel
theorem dX1_mark_25 : decode cX1_mark 25 = .ok (.iload_n 2, 1) := by decide +kernel
theorem dX1_mark_26 : decode cX1_mark 26 = .ok (.invokevirtual 43, 3) := by decide +kernel
theorem dX1_mark_29 : decode cX1_mark 29 = .ok (.istore_n 3, 1) := by decide +kernel
theorem dX1_mark_30 : decode cX1_mark 30 = .ok (.iload_n 3, 1) := by decide +kernel
theorem dX1_mark_31 : decode cX1_mark 31 = .ok (.aload_n 0, 1) := by decide +kernel
theorem dX1_mark_32 : decode cX1_mark 32 = .ok (.aload_n 1, 1) := by decide +kernel
theorem dX1_mark_33 : decode cX1_mark 33 = .ok (.iload_n 2, 1) := by decide +kernel
theorem dX1_mark_34 : decode cX1_mark 34 = .ok (.invokevirtual 47, 3) := by decide +kernel
theorem dX1_mark_37 : decode cX1_mark 37 = .ok (.isub, 1) := by decide +kernel
theorem dX1_mark_38 : decode cX1_mark 38 = .ok (.ireturn, 1) := by decide +kernel
theorem dX1_markAmongCaptains_0 : decode cX1_markAmongCaptains 0 = .ok (.aload_n 1, 1) := by decide +kernel
theorem dX1_markAmongCaptains_1 : decode cX1_markAmongCaptains 1 = .ok (.getfield 19, 3) := by decide +kernel
theorem dX1_markAmongCaptains_4 : decode cX1_markAmongCaptains 4 = .ok (.lookupswitch 60 #[(2, 28), (3, 43)], 28) := by decide +kernel
theorem dX1_markAmongCaptains_32 : decode cX1_markAmongCaptains 32 = .ok (.aload_n 0, 1) := by decide +kernel
theorem dX1_markAmongCaptains_33 : decode cX1_markAmongCaptains 33 = .ok (.bipush 24, 2) := by decide +kernel
theorem dX1_markAmongCaptains_35 : decode cX1_markAmongCaptains 35 = .ok (.invokevirtual 24, 3) := by decide +kernel
theorem dX1_markAmongCaptains_38 : decode cX1_markAmongCaptains 38 = .ok (.iconst 2, 1) := by decide +kernel
theorem dX1_markAmongCaptains_39 : decode cX1_markAmongCaptains 39 = .ok (.aload_n 0, 1) := by decide +kernel
theorem dX1_markAmongCaptains_40 : decode cX1_markAmongCaptains 40 = .ok (.aload_n 1, 1) := by decide +kernel
theorem dX1_markAmongCaptains_41 : decode cX1_markAmongCaptains 41 = .ok (.iload_n 2, 1) := by decide +kernel
theorem dX1_markAmongCaptains_42 : decode cX1_markAmongCaptains 42 = .ok (.invokevirtual 50, 3) := by decide +kernel
theorem dX1_markAmongCaptains_45 : decode cX1_markAmongCaptains 45 = .ok (.imul, 1) := by decide +kernel
theorem dX1_markAmongCaptains_46 : decode cX1_markAmongCaptains 46 = .ok (.ireturn, 1) := by decide +kernel
theorem dX1_markAmongCaptains_47 : decode cX1_markAmongCaptains 47 = .ok (.aload_n 0, 1) := by decide +kernel
theorem dX1_markAmongCaptains_48 : decode cX1_markAmongCaptains 48 = .ok (.bipush 22, 2) := by decide +kernel
theorem dX1_markAmongCaptains_50 : decode cX1_markAmongCaptains 50 = .ok (.invokevirtual 24, 3) := by decide +kernel
theorem dX1_markAmongCaptains_53 : decode cX1_markAmongCaptains 53 = .ok (.aload_n 0, 1) := by decide +kernel
theorem dX1_markAmongCaptains_54 : decode cX1_markAmongCaptains 54 = .ok (.aload_n 1, 1) := by decide +kernel
theorem dX1_markAmongCaptains_55 : decode cX1_markAmongCaptains 55 = .ok (.iload_n 2, 1) := by decide +kernel
theorem dX1_markAmongCaptains_56 : decode cX1_markAmongCaptains 56 = .ok (.invokevirtual 50, 3) := by decide +kernel
theorem dX1_markAmongCaptains_59 : decode cX1_markAmongCaptains 59 = .ok (.sipush 1000, 3) := by decide +kernel
theorem dX1_markAmongCaptains_62 : decode cX1_markAmongCaptains 62 = .ok (.isub, 1) := by decide +kernel
theorem dX1_markAmongCaptains_63 : decode cX1_markAmongCaptains 63 = .ok (.ireturn, 1) := by decide +kernel
theorem dX1_markAmongCaptains_64 : decode cX1_markAmongCaptains 64 = .ok (.aload_n 0, 1) := by decide +kernel
theorem dX1_markAmongCaptains_65 : decode cX1_markAmongCaptains 65 = .ok (.aload_n 1, 1) := by decide +kernel
theorem dX1_markAmongCaptains_66 : decode cX1_markAmongCaptains 66 = .ok (.iload_n 2, 1) := by decide +kernel
theorem dX1_markAmongCaptains_67 : decode cX1_markAmongCaptains 67 = .ok (.invokevirtual 50, 3) := by decide +kernel
theorem dX1_markAmongCaptains_70 : decode cX1_markAmongCaptains 70 = .ok (.ireturn, 1) := by decide +kernel
theorem dX1_lentSize_0 : decode cX1_lentSize 0 = .ok (.aload_n 0, 1) := by decide +kernel
theorem dX1_lentSize_1 : decode cX1_lentSize 1 = .ok (.bipush 10, 2) := by decide +kernel
theorem dX1_lentSize_3 : decode cX1_lentSize 3 = .ok (.invokevirtual 24, 3) := by decide +kernel
theorem dX1_lentSize_6 : decode cX1_lentSize 6 = .ok (.aload_n 1, 1) := by decide +kernel
theorem dX1_lentSize_7 : decode cX1_lentSize 7 = .ok (.getfield 53, 3) := by decide +kernel
theorem dX1_lentSize_10 : decode cX1_lentSize 10 = .ok (.ireturn, 1) := by decide +kernel
theorem dX1_sizeOfCaptain_0 : decode cX1_sizeOfCaptain 0 = .ok (.aload_n 0, 1) := by decide +kernel
theorem dX1_sizeOfCaptain_1 : decode cX1_sizeOfCaptain 1 = .ok (.bipush 11, 2) := by decide +kernel
theorem dX1_sizeOfCaptain_3 : decode cX1_sizeOfCaptain 3 = .ok (.invokevirtual 24, 3) := by decide +kernel
theorem dX1_sizeOfCaptain_6 : decode cX1_sizeOfCaptain 6 = .ok (.aload_n 0, 1) := by decide +kernel
theorem dX1_sizeOfCaptain_7 : decode cX1_sizeOfCaptain 7 = .ok (.aload_n 1, 1) := by decide +kernel
theorem dX1_sizeOfCaptain_8 : decode cX1_sizeOfCaptain 8 = .ok (.invokevirtual 56, 3) := by decide +kernel
theorem dX1_sizeOfCaptain_11 : decode cX1_sizeOfCaptain 11 = .ok (.istore_n 3, 1) := by decide +kernel
theorem dX1_sizeOfCaptain_12 : decode cX1_sizeOfCaptain 12 = .ok (.iload_n 3, 1) := by decide +kernel
theorem dX1_sizeOfCaptain_13 : decode cX1_sizeOfCaptain 13 = .ok (.aload_n 0, 1) := by decide +kernel
theorem dX1_sizeOfCaptain_14 : decode cX1_sizeOfCaptain 14 = .ok (.aload_n 1, 1) := by decide +kernel
theorem dX1_sizeOfCaptain_15 : decode cX1_sizeOfCaptain 15 = .ok (.iload_n 2, 1) := by decide +kernel
theorem dX1_sizeOfCaptain_16 : decode cX1_sizeOfCaptain 16 = .ok (.invokevirtual 40, 3) := by decide +kernel
theorem dX1_sizeOfCaptain_19 : decode cX1_sizeOfCaptain 19 = .ok (.iadd, 1) := by decide +kernel
theorem dX1_sizeOfCaptain_20 : decode cX1_sizeOfCaptain 20 = .ok (.ireturn, 1) := by decide +kernel
theorem dX1_sizeOfClerk_0 : decode cX1_sizeOfClerk 0 = .ok (.aload_n 0, 1) := by decide +kernel
theorem dX1_sizeOfClerk_1 : decode cX1_sizeOfClerk 1 = .ok (.bipush 13, 2) := by decide +kernel
theorem dX1_sizeOfClerk_3 : decode cX1_sizeOfClerk 3 = .ok (.invokevirtual 24, 3) := by decide +kernel
theorem dX1_sizeOfClerk_6 : decode cX1_sizeOfClerk 6 = .ok (.aload_n 0, 1) := by decide +kernel
theorem dX1_sizeOfClerk_7 : decode cX1_sizeOfClerk 7 = .ok (.aload_n 1, 1) := by decide +kernel
theorem dX1_sizeOfClerk_8 : decode cX1_sizeOfClerk 8 = .ok (.invokevirtual 56, 3) := by decide +kernel
theorem dX1_sizeOfClerk_11 : decode cX1_sizeOfClerk 11 = .ok (.bipush 100, 2) := by decide +kernel
theorem dX1_sizeOfClerk_13 : decode cX1_sizeOfClerk 13 = .ok (.isub, 1) := by decide +kernel
theorem dX1_sizeOfClerk_14 : decode cX1_sizeOfClerk 14 = .ok (.ireturn, 1) := by decide +kernel
theorem dX1_lentMark_0 : decode cX1_lentMark 0 = .ok (.aload_n 0, 1) := by decide +kernel
theorem dX1_lentMark_1 : decode cX1_lentMark 1 = .ok (.bipush 20, 2) := by decide +kernel
theorem dX1_lentMark_3 : decode cX1_lentMark 3 = .ok (.invokevirtual 24, 3) := by decide +kernel
theorem dX1_lentMark_6 : decode cX1_lentMark 6 = .ok (.iload_n 1, 1) := by decide +kernel
theorem dX1_lentMark_7 : decode cX1_lentMark 7 = .ok (.ireturn, 1) := by decide +kernel
theorem dX1_markOfCaptain_0 : decode cX1_markOfCaptain 0 = .ok (.aload_n 0, 1) := by decide +kernel
theorem dX1_markOfCaptain_1 : decode cX1_markOfCaptain 1 = .ok (.bipush 21, 2) := by decide +kernel
theorem dX1_markOfCaptain_3 : decode cX1_markOfCaptain 3 = .ok (.invokevirtual 24, 3) := by decide +kernel
theorem dX1_markOfCaptain_6 : decode cX1_markOfCaptain 6 = .ok (.aload_n 0, 1) := by decide +kernel
theorem dX1_markOfCaptain_7 : decode cX1_markOfCaptain 7 = .ok (.iload_n 2, 1) := by decide +kernel
theorem dX1_markOfCaptain_8 : decode cX1_markOfCaptain 8 = .ok (.invokevirtual 43, 3) := by decide +kernel
theorem dX1_markOfCaptain_11 : decode cX1_markOfCaptain 11 = .ok (.aload_n 1, 1) := by decide +kernel
theorem dX1_markOfCaptain_12 : decode cX1_markOfCaptain 12 = .ok (.getfield 59, 3) := by decide +kernel
theorem dX1_markOfCaptain_15 : decode cX1_markOfCaptain 15 = .ok (.iadd, 1) := by decide +kernel
theorem dX1_markOfCaptain_16 : decode cX1_markOfCaptain 16 = .ok (.ireturn, 1) := by decide +kernel
theorem dX2_init_0 : decode cX2_init 0 = .ok (.aload_n 0, 1) := by decide +kernel
theorem dX2_init_1 : decode cX2_init 1 = .ok (.invokespecial 3, 3) := by decide +kernel
theorem dX2_init_4 : decode cX2_init 4 = .ok (.aload_n 0, 1) := by decide +kernel
theorem dX2_init_5 : decode cX2_init 5 = .ok (.sipush 205, 3) := by decide +kernel
theorem dX2_init_8 : decode cX2_init 8 = .ok (.newarray .long, 2) := by decide +kernel
theorem dX2_init_10 : decode cX2_init 10 = .ok (.putfield 9, 3) := by decide +kernel
theorem dX2_init_13 : decode cX2_init 13 = .ok (.return_, 1) := by decide +kernel
theorem dX2_gainsAt_0 : decode cX2_gainsAt 0 = .ok (.iload_n 1, 1) := by decide +kernel
theorem dX2_gainsAt_1 : decode cX2_gainsAt 1 = .ok (.iconst 0, 1) := by decide +kernel
theorem dX2_gainsAt_2 : decode cX2_gainsAt 2 = .ok (.bipush 40, 2) := by decide +kernel
theorem dX2_gainsAt_4 : decode cX2_gainsAt 4 = .ok (.invokestatic 15, 3) := by decide +kernel
theorem dX2_gainsAt_7 : decode cX2_gainsAt 7 = .ok (.ifCond .ne 12, 3) := by decide +kernel
theorem dX2_gainsAt_10 : decode cX2_gainsAt 10 = .ok (.iload_n 2, 1) := by decide +kernel
theorem dX2_gainsAt_11 : decode cX2_gainsAt 11 = .ok (.iconst 0, 1) := by decide +kernel
theorem dX2_gainsAt_12 : decode cX2_gainsAt 12 = .ok (.iconst 4, 1) := by decide +kernel
theorem dX2_gainsAt_13 : decode cX2_gainsAt 13 = .ok (.invokestatic 15, 3) := by decide +kernel
theorem dX2_gainsAt_16 : decode cX2_gainsAt 16 = .ok (.ifCond .eq 5, 3) := by decide +kernel
theorem dX2_gainsAt_19 : decode cX2_gainsAt 19 = .ok (.lconst 0, 1) := by decide +kernel
theorem dX2_gainsAt_20 : decode cX2_gainsAt 20 = .ok (.lreturn, 1) := by decide +kernel
theorem dX2_gainsAt_21 : decode cX2_gainsAt 21 = .ok (.aload_n 0, 1) := by decide +kernel
theorem dX2_gainsAt_22 : decode cX2_gainsAt 22 = .ok (.getfield 9, 3) := by decide +kernel
theorem dX2_gainsAt_25 : decode cX2_gainsAt 25 = .ok (.iload_n 1, 1) := by decide +kernel
theorem dX2_gainsAt_26 : decode cX2_gainsAt 26 = .ok (.iconst 5, 1) := by decide +kernel
theorem dX2_gainsAt_27 : decode cX2_gainsAt 27 = .ok (.imul, 1) := by decide +kernel
theorem dX2_gainsAt_28 : decode cX2_gainsAt 28 = .ok (.iload_n 2, 1) := by decide +kernel
theorem dX2_gainsAt_29 : decode cX2_gainsAt 29 = .ok (.iadd, 1) := by decide +kernel
theorem dX2_gainsAt_30 : decode cX2_gainsAt 30 = .ok (.laload, 1) := by decide +kernel
theorem dX2_gainsAt_31 : decode cX2_gainsAt 31 = .ok (.lreturn, 1) := by decide +kernel
theorem dX2_hasGain_0 : decode cX2_hasGain 0 = .ok (.iload_n 3, 1) := by decide +kernel
theorem dX2_hasGain_1 : decode cX2_hasGain 1 = .ok (.iconst 0, 1) := by decide +kernel
theorem dX2_hasGain_2 : decode cX2_hasGain 2 = .ok (.bipush 40, 2) := by decide +kernel
theorem dX2_hasGain_4 : decode cX2_hasGain 4 = .ok (.invokestatic 15, 3) := by decide +kernel
theorem dX2_hasGain_7 : decode cX2_hasGain 7 = .ok (.ifCond .ne 22, 3) := by decide +kernel
theorem dX2_hasGain_10 : decode cX2_hasGain 10 = .ok (.aload_n 0, 1) := by decide +kernel
theorem dX2_hasGain_11 : decode cX2_hasGain 11 = .ok (.iload_n 1, 1) := by decide +kernel
theorem dX2_hasGain_12 : decode cX2_hasGain 12 = .ok (.iload_n 2, 1) := by decide +kernel
theorem dX2_hasGain_13 : decode cX2_hasGain 13 = .ok (.invokevirtual 19, 3) := by decide +kernel
theorem dX2_hasGain_16 : decode cX2_hasGain 16 = .ok (.iload_n 3, 1) := by decide +kernel
theorem dX2_hasGain_17 : decode cX2_hasGain 17 = .ok (.lushr, 1) := by decide +kernel
theorem dX2_hasGain_18 : decode cX2_hasGain 18 = .ok (.lconst 1, 1) := by decide +kernel
theorem dX2_hasGain_19 : decode cX2_hasGain 19 = .ok (.land, 1) := by decide +kernel
theorem dX2_hasGain_20 : decode cX2_hasGain 20 = .ok (.lconst 1, 1) := by decide +kernel
theorem dX2_hasGain_21 : decode cX2_hasGain 21 = .ok (.lcmp, 1) := by decide +kernel
theorem dX2_hasGain_22 : decode cX2_hasGain 22 = .ok (.ifCond .ne 7, 3) := by decide +kernel
theorem dX2_hasGain_25 : decode cX2_hasGain 25 = .ok (.iconst 1, 1) := by decide +kernel
theorem dX2_hasGain_26 : decode cX2_hasGain 26 = .ok (.goto 4, 3) := by decide +kernel
theorem dX2_hasGain_29 : decode cX2_hasGain 29 = .ok (.iconst 0, 1) := by decide +kernel
theorem dX2_hasGain_30 : decode cX2_hasGain 30 = .ok (.ireturn, 1) := by decide +kernel
theorem dX2_foresee_0 : decode cX2_foresee 0 = .ok (.iconst 0, 1) := by decide +kernel
theorem dX2_foresee_1 : decode cX2_foresee 1 = .ok (.istore_n 3, 1) := by decide +kernel
theorem dX2_foresee_2 : decode cX2_foresee 2 = .ok (.iload_n 3, 1) := by decide +kernel
theorem dX2_foresee_3 : decode cX2_foresee 3 = .ok (.iconst 5, 1) := by decide +kernel
theorem dX2_foresee_4 : decode cX2_foresee 4 = .ok (.if_icmp .ge 28, 3) := by decide +kernel
theorem dX2_foresee_7 : decode cX2_foresee 7 = .ok (.aload_n 0, 1) := by decide +kernel
theorem dX2_foresee_8 : decode cX2_foresee 8 = .ok (.getfield 9, 3) := by decide +kernel
theorem dX2_foresee_11 : decode cX2_foresee 11 = .ok (.iload_n 3, 1) := by decide +kernel
theorem dX2_foresee_12 : decode cX2_foresee 12 = .ok (.iload_n 3, 1) := by decide +kernel
theorem dX2_foresee_13 : decode cX2_foresee 13 = .ok (.aload_n 2, 1) := by decide +kernel
theorem dX2_foresee_14 : decode cX2_foresee 14 = .ok (.getfield 23, 3) := by decide +kernel
theorem dX2_foresee_17 : decode cX2_foresee 17 = .ok (.if_icmp .ne 7, 3) := by decide +kernel
theorem dX2_foresee_20 : decode cX2_foresee 20 = .ok (.lconst 1, 1) := by decide +kernel
theorem dX2_foresee_21 : decode cX2_foresee 21 = .ok (.goto 4, 3) := by decide +kernel
theorem dX2_foresee_24 : decode cX2_foresee 24 = .ok (.lconst 0, 1) := by decide +kernel
theorem dX2_foresee_25 : decode cX2_foresee 25 = .ok (.lastore, 1) := by decide +kernel
theorem dX2_foresee_26 : decode cX2_foresee 26 = .ok (.iinc 3 1, 3) := by decide +kernel
theorem dX2_foresee_29 : decode cX2_foresee 29 = .ok (.goto (-27), 3) := by decide +kernel
theorem dX2_foresee_32 : decode cX2_foresee 32 = .ok (.iconst 1, 1) := by decide +kernel
theorem dX2_foresee_33 : decode cX2_foresee 33 = .ok (.istore_n 3, 1) := by decide +kernel
theorem dX2_foresee_34 : decode cX2_foresee 34 = .ok (.iload_n 3, 1) := by decide +kernel
theorem dX2_foresee_35 : decode cX2_foresee 35 = .ok (.bipush 40, 2) := by decide +kernel
theorem dX2_foresee_37 : decode cX2_foresee 37 = .ok (.if_icmp .gt 89, 3) := by decide +kernel
theorem dX2_foresee_40 : decode cX2_foresee 40 = .ok (.iconst 0, 1) := by decide +kernel
theorem dX2_foresee_41 : decode cX2_foresee 41 = .ok (.istore 4, 2) := by decide +kernel
theorem dX2_foresee_43 : decode cX2_foresee 43 = .ok (.iload 4, 2) := by decide +kernel
theorem dX2_foresee_45 : decode cX2_foresee 45 = .ok (.iconst 5, 1) := by decide +kernel
theorem dX2_foresee_46 : decode cX2_foresee 46 = .ok (.if_icmp .ge 29, 3) := by decide +kernel
theorem dX2_foresee_49 : decode cX2_foresee 49 = .ok (.aload_n 0, 1) := by decide +kernel
theorem dX2_foresee_50 : decode cX2_foresee 50 = .ok (.getfield 9, 3) := by decide +kernel
theorem dX2_foresee_53 : decode cX2_foresee 53 = .ok (.iload_n 3, 1) := by decide +kernel
theorem dX2_foresee_54 : decode cX2_foresee 54 = .ok (.iconst 5, 1) := by decide +kernel
theorem dX2_foresee_55 : decode cX2_foresee 55 = .ok (.imul, 1) := by decide +kernel
theorem dX2_foresee_56 : decode cX2_foresee 56 = .ok (.iload 4, 2) := by decide +kernel
theorem dX2_foresee_58 : decode cX2_foresee 58 = .ok (.iadd, 1) := by decide +kernel
theorem dX2_foresee_59 : decode cX2_foresee 59 = .ok (.aload_n 0, 1) := by decide +kernel
theorem dX2_foresee_60 : decode cX2_foresee 60 = .ok (.iload_n 3, 1) := by decide +kernel
theorem dX2_foresee_61 : decode cX2_foresee 61 = .ok (.iconst 1, 1) := by decide +kernel
theorem dX2_foresee_62 : decode cX2_foresee 62 = .ok (.isub, 1) := by decide +kernel
theorem dX2_foresee_63 : decode cX2_foresee 63 = .ok (.iload 4, 2) := by decide +kernel
theorem dX2_foresee_65 : decode cX2_foresee 65 = .ok (.invokevirtual 19, 3) := by decide +kernel
theorem dX2_foresee_68 : decode cX2_foresee 68 = .ok (.lastore, 1) := by decide +kernel
theorem dX2_foresee_69 : decode cX2_foresee 69 = .ok (.iinc 4 1, 3) := by decide +kernel
theorem dX2_foresee_72 : decode cX2_foresee 72 = .ok (.goto (-29), 3) := by decide +kernel
theorem dX2_foresee_75 : decode cX2_foresee 75 = .ok (.iconst 0, 1) := by decide +kernel
theorem dX2_foresee_76 : decode cX2_foresee 76 = .ok (.istore 4, 2) := by decide +kernel
theorem dX2_foresee_78 : decode cX2_foresee 78 = .ok (.iload 4, 2) := by decide +kernel
theorem dX2_foresee_80 : decode cX2_foresee 80 = .ok (.aload_n 1, 1) := by decide +kernel
theorem dX2_foresee_81 : decode cX2_foresee 81 = .ok (.getfield 29, 3) := by decide +kernel
theorem dX2_foresee_84 : decode cX2_foresee 84 = .ok (.if_icmp .ge 36, 3) := by decide +kernel
theorem dX2_foresee_87 : decode cX2_foresee 87 = .ok (.aload_n 2, 1) := by decide +kernel
theorem dX2_foresee_88 : decode cX2_foresee 88 = .ok (.aload_n 1, 1) := by decide +kernel
theorem dX2_foresee_89 : decode cX2_foresee 89 = .ok (.getfield 34, 3) := by decide +kernel
theorem dX2_foresee_92 : decode cX2_foresee 92 = .ok (.iload 4, 2) := by decide +kernel
theorem dX2_foresee_94 : decode cX2_foresee 94 = .ok (.aaload, 1) := by decide +kernel
theorem dX2_foresee_95 : decode cX2_foresee 95 = .ok (.invokevirtual 38, 3) := by decide +kernel
theorem dX2_foresee_98 : decode cX2_foresee 98 = .ok (.ifCond .eq 16, 3) := by decide +kernel
theorem dX2_foresee_101 : decode cX2_foresee 101 = .ok (.aload_n 0, 1) := by decide +kernel
theorem dX2_foresee_102 : decode cX2_foresee 102 = .ok (.aload_n 2, 1) := by decide +kernel
theorem dX2_foresee_103 : decode cX2_foresee 103 = .ok (.aload_n 1, 1) := by decide +kernel
theorem dX2_foresee_104 : decode cX2_foresee 104 = .ok (.getfield 34, 3) := by decide +kernel
theorem dX2_foresee_107 : decode cX2_foresee 107 = .ok (.iload 4, 2) := by decide +kernel
theorem dX2_foresee_109 : decode cX2_foresee 109 = .ok (.aaload, 1) := by decide +kernel
theorem dX2_foresee_110 : decode cX2_foresee 110 = .ok (.iload_n 3, 1) := by decide +kernel
theorem dX2_foresee_111 : decode cX2_foresee 111 = .ok (.invokevirtual 42, 3) := by decide +kernel
theorem dX2_foresee_114 : decode cX2_foresee 114 = .ok (.iinc 4 1, 3) := by decide +kernel
theorem dX2_foresee_117 : decode cX2_foresee 117 = .ok (.goto (-39), 3) := by decide +kernel
theorem dX2_foresee_120 : decode cX2_foresee 120 = .ok (.iinc 3 1, 3) := by decide +kernel
theorem dX2_foresee_123 : decode cX2_foresee 123 = .ok (.goto (-89), 3) := by decide +kernel
theorem dX2_foresee_126 : decode cX2_foresee 126 = .ok (.return_, 1) := by decide +kernel
theorem dX2_arrive_0 : decode cX2_arrive 0 = .ok (.aload_n 2, 1) := by decide +kernel
theorem dX2_arrive_1 : decode cX2_arrive 1 = .ok (.getfield 46, 3) := by decide +kernel
theorem dX2_arrive_4 : decode cX2_arrive 4 = .ok (.aload_n 1, 1) := by decide +kernel
theorem dX2_arrive_5 : decode cX2_arrive 5 = .ok (.aload_n 2, 1) := by decide +kernel
theorem dX2_arrive_6 : decode cX2_arrive 6 = .ok (.invokevirtual 51, 3) := by decide +kernel
theorem dX2_arrive_9 : decode cX2_arrive 9 = .ok (.isub, 1) := by decide +kernel
theorem dX2_arrive_10 : decode cX2_arrive 10 = .ok (.istore 4, 2) := by decide +kernel
theorem dX2_arrive_12 : decode cX2_arrive 12 = .ok (.aload_n 0, 1) := by decide +kernel
theorem dX2_arrive_13 : decode cX2_arrive 13 = .ok (.getfield 9, 3) := by decide +kernel
theorem dX2_arrive_16 : decode cX2_arrive 16 = .ok (.iload_n 3, 1) := by decide +kernel
theorem dX2_arrive_17 : decode cX2_arrive 17 = .ok (.iconst 5, 1) := by decide +kernel
theorem dX2_arrive_18 : decode cX2_arrive 18 = .ok (.imul, 1) := by decide +kernel
theorem dX2_arrive_19 : decode cX2_arrive 19 = .ok (.aload_n 2, 1) := by decide +kernel
theorem dX2_arrive_20 : decode cX2_arrive 20 = .ok (.getfield 55, 3) := by decide +kernel
theorem dX2_arrive_23 : decode cX2_arrive 23 = .ok (.iadd, 1) := by decide +kernel
theorem dX2_arrive_24 : decode cX2_arrive 24 = .ok (.dup2, 1) := by decide +kernel
theorem dX2_arrive_25 : decode cX2_arrive 25 = .ok (.laload, 1) := by decide +kernel
theorem dX2_arrive_26 : decode cX2_arrive 26 = .ok (.aload_n 0, 1) := by decide +kernel
theorem dX2_arrive_27 : decode cX2_arrive 27 = .ok (.iload_n 3, 1) := by decide +kernel
theorem dX2_arrive_28 : decode cX2_arrive 28 = .ok (.aload_n 2, 1) := by decide +kernel
theorem dX2_arrive_29 : decode cX2_arrive 29 = .ok (.getfield 46, 3) := by decide +kernel
theorem dX2_arrive_32 : decode cX2_arrive 32 = .ok (.isub, 1) := by decide +kernel
theorem dX2_arrive_33 : decode cX2_arrive 33 = .ok (.aload_n 2, 1) := by decide +kernel
theorem dX2_arrive_34 : decode cX2_arrive 34 = .ok (.getfield 58, 3) := by decide +kernel
theorem dX2_arrive_37 : decode cX2_arrive 37 = .ok (.invokevirtual 19, 3) := by decide +kernel
theorem dX2_arrive_40 : decode cX2_arrive 40 = .ok (.iload 4, 2) := by decide +kernel
theorem dX2_arrive_42 : decode cX2_arrive 42 = .ok (.lshl, 1) := by decide +kernel
theorem dX2_arrive_43 : decode cX2_arrive 43 = .ok (.lor, 1) := by decide +kernel
theorem dX2_arrive_44 : decode cX2_arrive 44 = .ok (.lastore, 1) := by decide +kernel
theorem dX2_arrive_45 : decode cX2_arrive 45 = .ok (.aload_n 0, 1) := by decide +kernel
theorem dX2_arrive_46 : decode cX2_arrive 46 = .ok (.getfield 9, 3) := by decide +kernel
theorem dX2_arrive_49 : decode cX2_arrive 49 = .ok (.iload_n 3, 1) := by decide +kernel
theorem dX2_arrive_50 : decode cX2_arrive 50 = .ok (.iconst 5, 1) := by decide +kernel
theorem dX2_arrive_51 : decode cX2_arrive 51 = .ok (.imul, 1) := by decide +kernel
theorem dX2_arrive_52 : decode cX2_arrive 52 = .ok (.aload_n 2, 1) := by decide +kernel
theorem dX2_arrive_53 : decode cX2_arrive 53 = .ok (.getfield 58, 3) := by decide +kernel
theorem dX2_arrive_56 : decode cX2_arrive 56 = .ok (.iadd, 1) := by decide +kernel
theorem dX2_arrive_57 : decode cX2_arrive 57 = .ok (.dup2, 1) := by decide +kernel
theorem dX2_arrive_58 : decode cX2_arrive 58 = .ok (.laload, 1) := by decide +kernel
theorem dX2_arrive_59 : decode cX2_arrive 59 = .ok (.aload_n 0, 1) := by decide +kernel
theorem dX2_arrive_60 : decode cX2_arrive 60 = .ok (.iload_n 3, 1) := by decide +kernel
theorem dX2_arrive_61 : decode cX2_arrive 61 = .ok (.aload_n 2, 1) := by decide +kernel
theorem dX2_arrive_62 : decode cX2_arrive 62 = .ok (.getfield 46, 3) := by decide +kernel
theorem dX2_arrive_65 : decode cX2_arrive 65 = .ok (.isub, 1) := by decide +kernel
theorem dX2_arrive_66 : decode cX2_arrive 66 = .ok (.aload_n 2, 1) := by decide +kernel
theorem dX2_arrive_67 : decode cX2_arrive 67 = .ok (.getfield 55, 3) := by decide +kernel
theorem dX2_arrive_70 : decode cX2_arrive 70 = .ok (.invokevirtual 19, 3) := by decide +kernel
theorem dX2_arrive_73 : decode cX2_arrive 73 = .ok (.iload 4, 2) := by decide +kernel
theorem dX2_arrive_75 : decode cX2_arrive 75 = .ok (.lshl, 1) := by decide +kernel
theorem dX2_arrive_76 : decode cX2_arrive 76 = .ok (.lor, 1) := by decide +kernel
theorem dX2_arrive_77 : decode cX2_arrive 77 = .ok (.lastore, 1) := by decide +kernel
theorem dX2_arrive_78 : decode cX2_arrive 78 = .ok (.return_, 1) := by decide +kernel
theorem dX3_init_0 : decode cX3_init 0 = .ok (.aload_n 0, 1) := by decide +kernel
theorem dX3_init_1 : decode cX3_init 1 = .ok (.invokespecial 3, 3) := by decide +kernel
theorem dX3_init_4 : decode cX3_init 4 = .ok (.aload_n 0, 1) := by decide +kernel
theorem dX3_init_5 : decode cX3_init 5 = .ok (.iconst 0, 1) := by decide +kernel
theorem dX3_init_6 : decode cX3_init 6 = .ok (.putfield 9, 3) := by decide +kernel
theorem dX3_init_9 : decode cX3_init 9 = .ok (.aload_n 0, 1) := by decide +kernel
theorem dX3_init_10 : decode cX3_init 10 = .ok (.iconst 0, 1) := by decide +kernel
theorem dX3_init_11 : decode cX3_init 11 = .ok (.putfield 15, 3) := by decide +kernel
theorem dX3_init_14 : decode cX3_init 14 = .ok (.aload_n 0, 1) := by decide +kernel
theorem dX3_init_15 : decode cX3_init 15 = .ok (.iconst 0, 1) := by decide +kernel
theorem dX3_init_16 : decode cX3_init 16 = .ok (.putfield 18, 3) := by decide +kernel
theorem dX3_init_19 : decode cX3_init 19 = .ok (.aload_n 0, 1) := by decide +kernel
theorem dX3_init_20 : decode cX3_init 20 = .ok (.iconst 0, 1) := by decide +kernel
theorem dX3_init_21 : decode cX3_init 21 = .ok (.putfield 21, 3) := by decide +kernel
theorem dX3_init_24 : decode cX3_init 24 = .ok (.aload_n 0, 1) := by decide +kernel
theorem dX3_init_25 : decode cX3_init 25 = .ok (.bipush 8, 2) := by decide +kernel
theorem dX3_init_27 : decode cX3_init 27 = .ok (.anewarray 24, 3) := by decide +kernel
theorem dX3_init_30 : decode cX3_init 30 = .ok (.putfield 26, 3) := by decide +kernel
theorem dX3_init_33 : decode cX3_init 33 = .ok (.aload_n 0, 1) := by decide +kernel
theorem dX3_init_34 : decode cX3_init 34 = .ok (.iconst 4, 1) := by decide +kernel
theorem dX3_init_35 : decode cX3_init 35 = .ok (.anewarray 30, 3) := by decide +kernel
theorem dX3_init_38 : decode cX3_init 38 = .ok (.putfield 32, 3) := by decide +kernel
theorem dX3_init_41 : decode cX3_init 41 = .ok (.iconst 0, 1) := by decide +kernel
theorem dX3_init_42 : decode cX3_init 42 = .ok (.istore_n 1, 1) := by decide +kernel
theorem dX3_init_43 : decode cX3_init 43 = .ok (.iload_n 1, 1) := by decide +kernel
theorem dX3_init_44 : decode cX3_init 44 = .ok (.bipush 8, 2) := by decide +kernel
theorem dX3_init_46 : decode cX3_init 46 = .ok (.if_icmp .ge 22, 3) := by decide +kernel
theorem dX3_init_49 : decode cX3_init 49 = .ok (.aload_n 0, 1) := by decide +kernel
theorem dX3_init_50 : decode cX3_init 50 = .ok (.getfield 26, 3) := by decide +kernel
theorem dX3_init_53 : decode cX3_init 53 = .ok (.iload_n 1, 1) := by decide +kernel
theorem dX3_init_54 : decode cX3_init 54 = .ok (.new 24, 3) := by decide +kernel
theorem dX3_init_57 : decode cX3_init 57 = .ok (.dup, 1) := by decide +kernel
theorem dX3_init_58 : decode cX3_init 58 = .ok (.invokespecial 36, 3) := by decide +kernel
theorem dX3_init_61 : decode cX3_init 61 = .ok (.aastore, 1) := by decide +kernel
theorem dX3_init_62 : decode cX3_init 62 = .ok (.iinc 1 1, 3) := by decide +kernel
theorem dX3_init_65 : decode cX3_init 65 = .ok (.goto (-22), 3) := by decide +kernel
theorem dX3_init_68 : decode cX3_init 68 = .ok (.iconst 0, 1) := by decide +kernel
theorem dX3_init_69 : decode cX3_init 69 = .ok (.istore_n 1, 1) := by decide +kernel
theorem dX3_init_70 : decode cX3_init 70 = .ok (.iload_n 1, 1) := by decide +kernel
theorem dX3_init_71 : decode cX3_init 71 = .ok (.iconst 4, 1) := by decide +kernel
theorem dX3_init_72 : decode cX3_init 72 = .ok (.if_icmp .ge 22, 3) := by decide +kernel
theorem dX3_init_75 : decode cX3_init 75 = .ok (.aload_n 0, 1) := by decide +kernel
theorem dX3_init_76 : decode cX3_init 76 = .ok (.getfield 32, 3) := by decide +kernel
theorem dX3_init_79 : decode cX3_init 79 = .ok (.iload_n 1, 1) := by decide +kernel
theorem dX3_init_80 : decode cX3_init 80 = .ok (.new 30, 3) := by decide +kernel
theorem dX3_init_83 : decode cX3_init 83 = .ok (.dup, 1) := by decide +kernel
theorem dX3_init_84 : decode cX3_init 84 = .ok (.invokespecial 37, 3) := by decide +kernel
theorem dX3_init_87 : decode cX3_init 87 = .ok (.aastore, 1) := by decide +kernel
theorem dX3_init_88 : decode cX3_init 88 = .ok (.iinc 1 1, 3) := by decide +kernel
theorem dX3_init_91 : decode cX3_init 91 = .ok (.goto (-21), 3) := by decide +kernel
theorem dX3_init_94 : decode cX3_init 94 = .ok (.return_, 1) := by decide +kernel
theorem dX3_standsAs_0 : decode cX3_standsAs 0 = .ok (.aload_n 0, 1) := by decide +kernel
theorem dX3_standsAs_1 : decode cX3_standsAs 1 = .ok (.aload_n 1, 1) := by decide +kernel
theorem dX3_standsAs_2 : decode cX3_standsAs 2 = .ok (.getfield 9, 3) := by decide +kernel
theorem dX3_standsAs_5 : decode cX3_standsAs 5 = .ok (.putfield 9, 3) := by decide +kernel
theorem dX3_standsAs_8 : decode cX3_standsAs 8 = .ok (.aload_n 0, 1) := by decide +kernel
theorem dX3_standsAs_9 : decode cX3_standsAs 9 = .ok (.aload_n 1, 1) := by decide +kernel
theorem dX3_standsAs_10 : decode cX3_standsAs 10 = .ok (.getfield 15, 3) := by decide +kernel
theorem dX3_standsAs_13 : decode cX3_standsAs 13 = .ok (.putfield 15, 3) := by decide +kernel
theorem dX3_standsAs_16 : decode cX3_standsAs 16 = .ok (.aload_n 0, 1) := by decide +kernel
theorem dX3_standsAs_17 : decode cX3_standsAs 17 = .ok (.aload_n 1, 1) := by decide +kernel
theorem dX3_standsAs_18 : decode cX3_standsAs 18 = .ok (.getfield 18, 3) := by decide +kernel
theorem dX3_standsAs_21 : decode cX3_standsAs 21 = .ok (.putfield 18, 3) := by decide +kernel
theorem dX3_standsAs_24 : decode cX3_standsAs 24 = .ok (.aload_n 0, 1) := by decide +kernel
theorem dX3_standsAs_25 : decode cX3_standsAs 25 = .ok (.aload_n 1, 1) := by decide +kernel
theorem dX3_standsAs_26 : decode cX3_standsAs 26 = .ok (.getfield 21, 3) := by decide +kernel
theorem dX3_standsAs_29 : decode cX3_standsAs 29 = .ok (.putfield 21, 3) := by decide +kernel
theorem dX3_standsAs_32 : decode cX3_standsAs 32 = .ok (.iconst 0, 1) := by decide +kernel
theorem dX3_standsAs_33 : decode cX3_standsAs 33 = .ok (.istore_n 2, 1) := by decide +kernel
theorem dX3_standsAs_34 : decode cX3_standsAs 34 = .ok (.iload_n 2, 1) := by decide +kernel
theorem dX3_standsAs_35 : decode cX3_standsAs 35 = .ok (.bipush 8, 2) := by decide +kernel
theorem dX3_standsAs_37 : decode cX3_standsAs 37 = .ok (.if_icmp .ge 24, 3) := by decide +kernel
theorem dX3_standsAs_40 : decode cX3_standsAs 40 = .ok (.aload_n 0, 1) := by decide +kernel
theorem dX3_standsAs_41 : decode cX3_standsAs 41 = .ok (.getfield 26, 3) := by decide +kernel
theorem dX3_standsAs_44 : decode cX3_standsAs 44 = .ok (.iload_n 2, 1) := by decide +kernel
theorem dX3_standsAs_45 : decode cX3_standsAs 45 = .ok (.aaload, 1) := by decide +kernel
theorem dX3_standsAs_46 : decode cX3_standsAs 46 = .ok (.aload_n 1, 1) := by decide +kernel
theorem dX3_standsAs_47 : decode cX3_standsAs 47 = .ok (.getfield 26, 3) := by decide +kernel
theorem dX3_standsAs_50 : decode cX3_standsAs 50 = .ok (.iload_n 2, 1) := by decide +kernel
theorem dX3_standsAs_51 : decode cX3_standsAs 51 = .ok (.aaload, 1) := by decide +kernel
theorem dX3_standsAs_52 : decode cX3_standsAs 52 = .ok (.invokevirtual 38, 3) := by decide +kernel
theorem dX3_standsAs_55 : decode cX3_standsAs 55 = .ok (.iinc 2 1, 3) := by decide +kernel
theorem dX3_standsAs_58 : decode cX3_standsAs 58 = .ok (.goto (-24), 3) := by decide +kernel
theorem dX3_standsAs_61 : decode cX3_standsAs 61 = .ok (.iconst 0, 1) := by decide +kernel
theorem dX3_standsAs_62 : decode cX3_standsAs 62 = .ok (.istore_n 2, 1) := by decide +kernel
theorem dX3_standsAs_63 : decode cX3_standsAs 63 = .ok (.iload_n 2, 1) := by decide +kernel
theorem dX3_standsAs_64 : decode cX3_standsAs 64 = .ok (.iconst 4, 1) := by decide +kernel
theorem dX3_standsAs_65 : decode cX3_standsAs 65 = .ok (.if_icmp .ge 24, 3) := by decide +kernel
theorem dX3_standsAs_68 : decode cX3_standsAs 68 = .ok (.aload_n 0, 1) := by decide +kernel
theorem dX3_standsAs_69 : decode cX3_standsAs 69 = .ok (.getfield 32, 3) := by decide +kernel
theorem dX3_standsAs_72 : decode cX3_standsAs 72 = .ok (.iload_n 2, 1) := by decide +kernel
theorem dX3_standsAs_73 : decode cX3_standsAs 73 = .ok (.aaload, 1) := by decide +kernel
theorem dX3_standsAs_74 : decode cX3_standsAs 74 = .ok (.aload_n 1, 1) := by decide +kernel
theorem dX3_standsAs_75 : decode cX3_standsAs 75 = .ok (.getfield 32, 3) := by decide +kernel
theorem dX3_standsAs_78 : decode cX3_standsAs 78 = .ok (.iload_n 2, 1) := by decide +kernel
theorem dX3_standsAs_79 : decode cX3_standsAs 79 = .ok (.aaload, 1) := by decide +kernel
theorem dX3_standsAs_80 : decode cX3_standsAs 80 = .ok (.invokevirtual 42, 3) := by decide +kernel
theorem dX3_standsAs_83 : decode cX3_standsAs 83 = .ok (.iinc 2 1, 3) := by decide +kernel
theorem dX3_standsAs_86 : decode cX3_standsAs 86 = .ok (.goto (-23), 3) := by decide +kernel
theorem dX3_standsAs_89 : decode cX3_standsAs 89 = .ok (.return_, 1) := by decide +kernel
theorem dX3_oneVoyageMore_0 : decode cX3_oneVoyageMore 0 = .ok (.iload_n 2, 1) := by decide +kernel
theorem dX3_oneVoyageMore_1 : decode cX3_oneVoyageMore 1 = .ok (.istore_n 3, 1) := by decide +kernel
theorem dX3_oneVoyageMore_2 : decode cX3_oneVoyageMore 2 = .ok (.iconst 0, 1) := by decide +kernel
theorem dX3_oneVoyageMore_3 : decode cX3_oneVoyageMore 3 = .ok (.istore 4, 2) := by decide +kernel
theorem dX3_oneVoyageMore_5 : decode cX3_oneVoyageMore 5 = .ok (.iload 4, 2) := by decide +kernel
theorem dX3_oneVoyageMore_7 : decode cX3_oneVoyageMore 7 = .ok (.aload_n 0, 1) := by decide +kernel
theorem dX3_oneVoyageMore_8 : decode cX3_oneVoyageMore 8 = .ok (.getfield 18, 3) := by decide +kernel
theorem dX3_oneVoyageMore_11 : decode cX3_oneVoyageMore 11 = .ok (.if_icmp .ge 56, 3) := by decide +kernel
theorem dX3_oneVoyageMore_14 : decode cX3_oneVoyageMore 14 = .ok (.aload_n 0, 1) := by decide +kernel
theorem dX3_oneVoyageMore_15 : decode cX3_oneVoyageMore 15 = .ok (.getfield 26, 3) := by decide +kernel
theorem dX3_oneVoyageMore_18 : decode cX3_oneVoyageMore 18 = .ok (.iload 4, 2) := by decide +kernel
theorem dX3_oneVoyageMore_20 : decode cX3_oneVoyageMore 20 = .ok (.aaload, 1) := by decide +kernel
theorem dX3_oneVoyageMore_21 : decode cX3_oneVoyageMore 21 = .ok (.astore 5, 2) := by decide +kernel
theorem dX3_oneVoyageMore_23 : decode cX3_oneVoyageMore 23 = .ok (.iconst 1, 1) := by decide +kernel
theorem dX3_oneVoyageMore_24 : decode cX3_oneVoyageMore 24 = .ok (.aload 5, 2) := by decide +kernel
theorem dX3_oneVoyageMore_26 : decode cX3_oneVoyageMore 26 = .ok (.getfield 45, 3) := by decide +kernel
theorem dX3_oneVoyageMore_29 : decode cX3_oneVoyageMore 29 = .ok (.ishl, 1) := by decide +kernel
theorem dX3_oneVoyageMore_30 : decode cX3_oneVoyageMore 30 = .ok (.iconst 1, 1) := by decide +kernel
theorem dX3_oneVoyageMore_31 : decode cX3_oneVoyageMore 31 = .ok (.aload 5, 2) := by decide +kernel
theorem dX3_oneVoyageMore_33 : decode cX3_oneVoyageMore 33 = .ok (.getfield 48, 3) := by decide +kernel
theorem dX3_oneVoyageMore_36 : decode cX3_oneVoyageMore 36 = .ok (.ishl, 1) := by decide +kernel
theorem dX3_oneVoyageMore_37 : decode cX3_oneVoyageMore 37 = .ok (.ior, 1) := by decide +kernel
theorem dX3_oneVoyageMore_38 : decode cX3_oneVoyageMore 38 = .ok (.istore 6, 2) := by decide +kernel
theorem dX3_oneVoyageMore_40 : decode cX3_oneVoyageMore 40 = .ok (.aload_n 1, 1) := by decide +kernel
theorem dX3_oneVoyageMore_41 : decode cX3_oneVoyageMore 41 = .ok (.aload 5, 2) := by decide +kernel
theorem dX3_oneVoyageMore_43 : decode cX3_oneVoyageMore 43 = .ok (.invokevirtual 51, 3) := by decide +kernel
theorem dX3_oneVoyageMore_46 : decode cX3_oneVoyageMore 46 = .ok (.ifCond .eq 15, 3) := by decide +kernel
theorem dX3_oneVoyageMore_49 : decode cX3_oneVoyageMore 49 = .ok (.iload_n 2, 1) := by decide +kernel
theorem dX3_oneVoyageMore_50 : decode cX3_oneVoyageMore 50 = .ok (.iload 6, 2) := by decide +kernel
theorem dX3_oneVoyageMore_52 : decode cX3_oneVoyageMore 52 = .ok (.iand, 1) := by decide +kernel
theorem dX3_oneVoyageMore_53 : decode cX3_oneVoyageMore 53 = .ok (.ifCond .eq 8, 3) := by decide +kernel
theorem dX3_oneVoyageMore_56 : decode cX3_oneVoyageMore 56 = .ok (.iload_n 3, 1) := by decide +kernel
theorem dX3_oneVoyageMore_57 : decode cX3_oneVoyageMore 57 = .ok (.iload 6, 2) := by decide +kernel
theorem dX3_oneVoyageMore_59 : decode cX3_oneVoyageMore 59 = .ok (.ior, 1) := by decide +kernel
theorem dX3_oneVoyageMore_60 : decode cX3_oneVoyageMore 60 = .ok (.istore_n 3, 1) := by decide +kernel
theorem dX3_oneVoyageMore_61 : decode cX3_oneVoyageMore 61 = .ok (.iinc 4 1, 3) := by decide +kernel
theorem dX3_oneVoyageMore_64 : decode cX3_oneVoyageMore 64 = .ok (.goto (-59), 3) := by decide +kernel
theorem dX3_oneVoyageMore_67 : decode cX3_oneVoyageMore 67 = .ok (.iload_n 3, 1) := by decide +kernel
theorem dX3_oneVoyageMore_68 : decode cX3_oneVoyageMore 68 = .ok (.ireturn, 1) := by decide +kernel
theorem dX4_init_0 : decode cX4_init 0 = .ok (.aload_n 0, 1) := by decide +kernel
theorem dX4_init_1 : decode cX4_init 1 = .ok (.invokespecial 3, 3) := by decide +kernel
theorem dX4_init_4 : decode cX4_init 4 = .ok (.aload_n 0, 1) := by decide +kernel
theorem dX4_init_5 : decode cX4_init 5 = .ok (.iconst 0, 1) := by decide +kernel
theorem dX4_init_6 : decode cX4_init 6 = .ok (.putfield 9, 3) := by decide +kernel
theorem dX4_init_9 : decode cX4_init 9 = .ok (.aload_n 0, 1) := by decide +kernel
theorem dX4_init_10 : decode cX4_init 10 = .ok (.iconst 0, 1) := by decide +kernel
theorem dX4_init_11 : decode cX4_init 11 = .ok (.putfield 15, 3) := by decide +kernel
theorem dX4_init_14 : decode cX4_init 14 = .ok (.aload_n 0, 1) := by decide +kernel
theorem dX4_init_15 : decode cX4_init 15 = .ok (.iconst 0, 1) := by decide +kernel
theorem dX4_init_16 : decode cX4_init 16 = .ok (.putfield 18, 3) := by decide +kernel
theorem dX4_init_19 : decode cX4_init 19 = .ok (.aload_n 0, 1) := by decide +kernel
theorem dX4_init_20 : decode cX4_init 20 = .ok (.iconst 0, 1) := by decide +kernel
theorem dX4_init_21 : decode cX4_init 21 = .ok (.putfield 21, 3) := by decide +kernel
theorem dX4_init_24 : decode cX4_init 24 = .ok (.aload_n 0, 1) := by decide +kernel
theorem dX4_init_25 : decode cX4_init 25 = .ok (.iconst 0, 1) := by decide +kernel
theorem dX4_init_26 : decode cX4_init 26 = .ok (.putfield 24, 3) := by decide +kernel
theorem dX4_init_29 : decode cX4_init 29 = .ok (.aload_n 0, 1) := by decide +kernel
theorem dX4_init_30 : decode cX4_init 30 = .ok (.iconst 0, 1) := by decide +kernel
theorem dX4_init_31 : decode cX4_init 31 = .ok (.putfield 27, 3) := by decide +kernel
theorem dX4_init_34 : decode cX4_init 34 = .ok (.aload_n 0, 1) := by decide +kernel
theorem dX4_init_35 : decode cX4_init 35 = .ok (.iconst 0, 1) := by decide +kernel
theorem dX4_init_36 : decode cX4_init 36 = .ok (.putfield 30, 3) := by decide +kernel
theorem dX4_init_39 : decode cX4_init 39 = .ok (.aload_n 0, 1) := by decide +kernel
theorem dX4_init_40 : decode cX4_init 40 = .ok (.iconst 0, 1) := by decide +kernel
theorem dX4_init_41 : decode cX4_init 41 = .ok (.putfield 33, 3) := by decide +kernel
theorem dX4_init_44 : decode cX4_init 44 = .ok (.return_, 1) := by decide +kernel
theorem dX4_beginsAs_0 : decode cX4_beginsAs 0 = .ok (.aload_n 0, 1) := by decide +kernel
theorem dX4_beginsAs_1 : decode cX4_beginsAs 1 = .ok (.iload_n 1, 1) := by decide +kernel
theorem dX4_beginsAs_2 : decode cX4_beginsAs 2 = .ok (.putfield 9, 3) := by decide +kernel
theorem dX4_beginsAs_5 : decode cX4_beginsAs 5 = .ok (.aload_n 0, 1) := by decide +kernel
theorem dX4_beginsAs_6 : decode cX4_beginsAs 6 = .ok (.iload_n 3, 1) := by decide +kernel
theorem dX4_beginsAs_7 : decode cX4_beginsAs 7 = .ok (.putfield 15, 3) := by decide +kernel
theorem dX4_beginsAs_10 : decode cX4_beginsAs 10 = .ok (.aload_n 0, 1) := by decide +kernel
theorem dX4_beginsAs_11 : decode cX4_beginsAs 11 = .ok (.iload_n 2, 1) := by decide +kernel
theorem dX4_beginsAs_12 : decode cX4_beginsAs 12 = .ok (.putfield 18, 3) := by decide +kernel
theorem dX4_beginsAs_15 : decode cX4_beginsAs 15 = .ok (.aload_n 0, 1) := by decide +kernel
theorem dX4_beginsAs_16 : decode cX4_beginsAs 16 = .ok (.iconst 0, 1) := by decide +kernel
theorem dX4_beginsAs_17 : decode cX4_beginsAs 17 = .ok (.putfield 21, 3) := by decide +kernel
theorem dX4_beginsAs_20 : decode cX4_beginsAs 20 = .ok (.aload_n 0, 1) := by decide +kernel
theorem dX4_beginsAs_21 : decode cX4_beginsAs 21 = .ok (.iload_n 3, 1) := by decide +kernel
theorem dX4_beginsAs_22 : decode cX4_beginsAs 22 = .ok (.putfield 24, 3) := by decide +kernel
theorem dX4_beginsAs_25 : decode cX4_beginsAs 25 = .ok (.aload_n 0, 1) := by decide +kernel
theorem dX4_beginsAs_26 : decode cX4_beginsAs 26 = .ok (.iconst 0, 1) := by decide +kernel
theorem dX4_beginsAs_27 : decode cX4_beginsAs 27 = .ok (.putfield 27, 3) := by decide +kernel
theorem dX4_beginsAs_30 : decode cX4_beginsAs 30 = .ok (.aload_n 0, 1) := by decide +kernel
theorem dX4_beginsAs_31 : decode cX4_beginsAs 31 = .ok (.iconst 0, 1) := by decide +kernel
theorem dX4_beginsAs_32 : decode cX4_beginsAs 32 = .ok (.putfield 30, 3) := by decide +kernel
theorem dX4_beginsAs_35 : decode cX4_beginsAs 35 = .ok (.aload_n 0, 1) := by decide +kernel
theorem dX4_beginsAs_36 : decode cX4_beginsAs 36 = .ok (.iconst 0, 1) := by decide +kernel
theorem dX4_beginsAs_37 : decode cX4_beginsAs 37 = .ok (.putfield 33, 3) := by decide +kernel
theorem dX4_beginsAs_40 : decode cX4_beginsAs 40 = .ok (.return_, 1) := by decide +kernel
theorem dX4_becomes_0 : decode cX4_becomes 0 = .ok (.aload_n 0, 1) := by decide +kernel
theorem dX4_becomes_1 : decode cX4_becomes 1 = .ok (.aload_n 1, 1) := by decide +kernel
theorem dX4_becomes_2 : decode cX4_becomes 2 = .ok (.getfield 9, 3) := by decide +kernel
theorem dX4_becomes_5 : decode cX4_becomes 5 = .ok (.putfield 9, 3) := by decide +kernel
theorem dX4_becomes_8 : decode cX4_becomes 8 = .ok (.aload_n 0, 1) := by decide +kernel
theorem dX4_becomes_9 : decode cX4_becomes 9 = .ok (.aload_n 1, 1) := by decide +kernel
theorem dX4_becomes_10 : decode cX4_becomes 10 = .ok (.getfield 15, 3) := by decide +kernel
theorem dX4_becomes_13 : decode cX4_becomes 13 = .ok (.putfield 15, 3) := by decide +kernel
theorem dX4_becomes_16 : decode cX4_becomes 16 = .ok (.aload_n 0, 1) := by decide +kernel
theorem dX4_becomes_17 : decode cX4_becomes 17 = .ok (.aload_n 1, 1) := by decide +kernel
theorem dX4_becomes_18 : decode cX4_becomes 18 = .ok (.getfield 18, 3) := by decide +kernel
theorem dX4_becomes_21 : decode cX4_becomes 21 = .ok (.putfield 18, 3) := by decide +kernel
theorem dX4_becomes_24 : decode cX4_becomes 24 = .ok (.aload_n 0, 1) := by decide +kernel
theorem dX4_becomes_25 : decode cX4_becomes 25 = .ok (.aload_n 1, 1) := by decide +kernel
theorem dX4_becomes_26 : decode cX4_becomes 26 = .ok (.getfield 21, 3) := by decide +kernel
theorem dX4_becomes_29 : decode cX4_becomes 29 = .ok (.putfield 21, 3) := by decide +kernel
theorem dX4_becomes_32 : decode cX4_becomes 32 = .ok (.aload_n 0, 1) := by decide +kernel
theorem dX4_becomes_33 : decode cX4_becomes 33 = .ok (.aload_n 1, 1) := by decide +kernel
theorem dX4_becomes_34 : decode cX4_becomes 34 = .ok (.getfield 24, 3) := by decide +kernel
theorem dX4_becomes_37 : decode cX4_becomes 37 = .ok (.putfield 24, 3) := by decide +kernel
theorem dX4_becomes_40 : decode cX4_becomes 40 = .ok (.aload_n 0, 1) := by decide +kernel
theorem dX4_becomes_41 : decode cX4_becomes 41 = .ok (.aload_n 1, 1) := by decide +kernel
theorem dX4_becomes_42 : decode cX4_becomes 42 = .ok (.getfield 27, 3) := by decide +kernel
theorem dX4_becomes_45 : decode cX4_becomes 45 = .ok (.putfield 27, 3) := by decide +kernel
theorem dX4_becomes_48 : decode cX4_becomes 48 = .ok (.aload_n 0, 1) := by decide +kernel
theorem dX4_becomes_49 : decode cX4_becomes 49 = .ok (.aload_n 1, 1) := by decide +kernel
theorem dX4_becomes_50 : decode cX4_becomes 50 = .ok (.getfield 30, 3) := by decide +kernel
theorem dX4_becomes_53 : decode cX4_becomes 53 = .ok (.putfield 30, 3) := by decide +kernel
theorem dX4_becomes_56 : decode cX4_becomes 56 = .ok (.aload_n 0, 1) := by decide +kernel
theorem dX4_becomes_57 : decode cX4_becomes 57 = .ok (.aload_n 1, 1) := by decide +kernel
theorem dX4_becomes_58 : decode cX4_becomes 58 = .ok (.getfield 33, 3) := by decide +kernel
theorem dX4_becomes_61 : decode cX4_becomes 61 = .ok (.putfield 33, 3) := by decide +kernel
theorem dX4_becomes_64 : decode cX4_becomes 64 = .ok (.return_, 1) := by decide +kernel
theorem dX4_lag_0 : decode cX4_lag 0 = .ok (.aload_n 0, 1) := by decide +kernel
theorem dX4_lag_1 : decode cX4_lag 1 = .ok (.getfield 21, 3) := by decide +kernel
theorem dX4_lag_4 : decode cX4_lag 4 = .ok (.aload_n 0, 1) := by decide +kernel
theorem dX4_lag_5 : decode cX4_lag 5 = .ok (.getfield 15, 3) := by decide +kernel
theorem dX4_lag_8 : decode cX4_lag 8 = .ok (.iadd, 1) := by decide +kernel
theorem dX4_lag_9 : decode cX4_lag 9 = .ok (.aload_n 0, 1) := by decide +kernel
theorem dX4_lag_10 : decode cX4_lag 10 = .ok (.getfield 24, 3) := by decide +kernel
theorem dX4_lag_13 : decode cX4_lag 13 = .ok (.isub, 1) := by decide +kernel
theorem dX4_lag_14 : decode cX4_lag 14 = .ok (.ireturn, 1) := by decide +kernel
theorem dX4_maySail_0 : decode cX4_maySail 0 = .ok (.aload_n 0, 1) := by decide +kernel
theorem dX4_maySail_1 : decode cX4_maySail 1 = .ok (.getfield 9, 3) := by decide +kernel
theorem dX4_maySail_4 : decode cX4_maySail 4 = .ok (.iconst 5, 1) := by decide +kernel
theorem dX4_maySail_5 : decode cX4_maySail 5 = .ok (.if_icmp .ne 12, 3) := by decide +kernel
theorem dX4_maySail_8 : decode cX4_maySail 8 = .ok (.aload_n 1, 1) := by decide +kernel
theorem dX4_maySail_9 : decode cX4_maySail 9 = .ok (.getfield 36, 3) := by decide +kernel
theorem dX4_maySail_12 : decode cX4_maySail 12 = .ok (.bipush 10, 2) := by decide +kernel
theorem dX4_maySail_14 : decode cX4_maySail 14 = .ok (.if_icmp .gt 7, 3) := by decide +kernel
theorem dX4_maySail_17 : decode cX4_maySail 17 = .ok (.iconst 1, 1) := by decide +kernel
theorem dX4_maySail_18 : decode cX4_maySail 18 = .ok (.goto 4, 3) := by decide +kernel
theorem dX4_maySail_21 : decode cX4_maySail 21 = .ok (.iconst 0, 1) := by decide +kernel
theorem dX4_maySail_22 : decode cX4_maySail 22 = .ok (.ireturn, 1) := by decide +kernel
theorem dX4_ownYears_0 : decode cX4_ownYears 0 = .ok (.aload_n 0, 1) := by decide +kernel
theorem dX4_ownYears_1 : decode cX4_ownYears 1 = .ok (.getfield 9, 3) := by decide +kernel
theorem dX4_ownYears_4 : decode cX4_ownYears 4 = .ok (.tableswitch 46 2 4 #[28, 39, 41], 28) := by decide +kernel
theorem dX4_ownYears_32 : decode cX4_ownYears 32 = .ok (.aload_n 1, 1) := by decide +kernel
theorem dX4_ownYears_33 : decode cX4_ownYears 33 = .ok (.getfield 41, 3) := by decide +kernel
theorem dX4_ownYears_36 : decode cX4_ownYears 36 = .ok (.iconst 1, 1) := by decide +kernel
theorem dX4_ownYears_37 : decode cX4_ownYears 37 = .ok (.isub, 1) := by decide +kernel
theorem dX4_ownYears_38 : decode cX4_ownYears 38 = .ok (.iconst 0, 1) := by decide +kernel
theorem dX4_ownYears_39 : decode cX4_ownYears 39 = .ok (.invokestatic 44, 3) := by decide +kernel
theorem dX4_ownYears_42 : decode cX4_ownYears 42 = .ok (.ireturn, 1) := by decide +kernel
theorem dX4_ownYears_43 : decode cX4_ownYears 43 = .ok (.iconst 0, 1) := by decide +kernel
theorem dX4_ownYears_44 : decode cX4_ownYears 44 = .ok (.ireturn, 1) := by decide +kernel
theorem dX4_ownYears_45 : decode cX4_ownYears 45 = .ok (.aload_n 1, 1) := by decide +kernel
theorem dX4_ownYears_46 : decode cX4_ownYears 46 = .ok (.getfield 36, 3) := by decide +kernel
theorem dX4_ownYears_49 : decode cX4_ownYears 49 = .ok (.ireturn, 1) := by decide +kernel
theorem dX4_ownYears_50 : decode cX4_ownYears 50 = .ok (.aload_n 1, 1) := by decide +kernel
theorem dX4_ownYears_51 : decode cX4_ownYears 51 = .ok (.getfield 41, 3) := by decide +kernel
theorem dX4_ownYears_54 : decode cX4_ownYears 54 = .ok (.ireturn, 1) := by decide +kernel
theorem dX4_sailOn_0 : decode cX4_sailOn 0 = .ok (.aload_n 0, 1) := by decide +kernel
theorem dX4_sailOn_1 : decode cX4_sailOn 1 = .ok (.aload_n 1, 1) := by decide +kernel
theorem dX4_sailOn_2 : decode cX4_sailOn 2 = .ok (.aload_n 0, 1) := by decide +kernel
theorem dX4_sailOn_3 : decode cX4_sailOn 3 = .ok (.getfield 18, 3) := by decide +kernel
theorem dX4_sailOn_6 : decode cX4_sailOn 6 = .ok (.invokevirtual 50, 3) := by decide +kernel
theorem dX4_sailOn_9 : decode cX4_sailOn 9 = .ok (.putfield 18, 3) := by decide +kernel
theorem dX4_sailOn_12 : decode cX4_sailOn 12 = .ok (.aload_n 0, 1) := by decide +kernel
theorem dX4_sailOn_13 : decode cX4_sailOn 13 = .ok (.dup, 1) := by decide +kernel
theorem dX4_sailOn_14 : decode cX4_sailOn 14 = .ok (.getfield 21, 3) := by decide +kernel
theorem dX4_sailOn_17 : decode cX4_sailOn 17 = .ok (.aload_n 1, 1) := by decide +kernel
theorem dX4_sailOn_18 : decode cX4_sailOn 18 = .ok (.getfield 36, 3) := by decide +kernel
theorem dX4_sailOn_21 : decode cX4_sailOn 21 = .ok (.iadd, 1) := by decide +kernel
theorem dX4_sailOn_22 : decode cX4_sailOn 22 = .ok (.putfield 21, 3) := by decide +kernel
theorem dX4_sailOn_25 : decode cX4_sailOn 25 = .ok (.aload_n 0, 1) := by decide +kernel
theorem dX4_sailOn_26 : decode cX4_sailOn 26 = .ok (.dup, 1) := by decide +kernel
theorem dX4_sailOn_27 : decode cX4_sailOn 27 = .ok (.getfield 24, 3) := by decide +kernel
theorem dX4_sailOn_30 : decode cX4_sailOn 30 = .ok (.aload_n 0, 1) := by decide +kernel
theorem dX4_sailOn_31 : decode cX4_sailOn 31 = .ok (.aload_n 1, 1) := by decide +kernel
theorem dX4_sailOn_32 : decode cX4_sailOn 32 = .ok (.invokevirtual 54, 3) := by decide +kernel
theorem dX4_sailOn_35 : decode cX4_sailOn 35 = .ok (.iadd, 1) := by decide +kernel
theorem dX4_sailOn_36 : decode cX4_sailOn 36 = .ok (.putfield 24, 3) := by decide +kernel
theorem dX4_sailOn_39 : decode cX4_sailOn 39 = .ok (.return_, 1) := by decide +kernel
theorem dX4_stayFor_0 : decode cX4_stayFor 0 = .ok (.aload_n 0, 1) := by decide +kernel
theorem dX4_stayFor_1 : decode cX4_stayFor 1 = .ok (.dup, 1) := by decide +kernel
theorem dX4_stayFor_2 : decode cX4_stayFor 2 = .ok (.getfield 21, 3) := by decide +kernel
theorem dX4_stayFor_5 : decode cX4_stayFor 5 = .ok (.iload_n 1, 1) := by decide +kernel
theorem dX4_stayFor_6 : decode cX4_stayFor 6 = .ok (.iadd, 1) := by decide +kernel
theorem dX4_stayFor_7 : decode cX4_stayFor 7 = .ok (.putfield 21, 3) := by decide +kernel
theorem dX4_stayFor_10 : decode cX4_stayFor 10 = .ok (.aload_n 0, 1) := by decide +kernel
theorem dX4_stayFor_11 : decode cX4_stayFor 11 = .ok (.dup, 1) := by decide +kernel
theorem dX4_stayFor_12 : decode cX4_stayFor 12 = .ok (.getfield 24, 3) := by decide +kernel
theorem dX4_stayFor_15 : decode cX4_stayFor 15 = .ok (.iload_n 1, 1) := by decide +kernel
theorem dX4_stayFor_16 : decode cX4_stayFor 16 = .ok (.iadd, 1) := by decide +kernel
theorem dX4_stayFor_17 : decode cX4_stayFor 17 = .ok (.putfield 24, 3) := by decide +kernel
theorem dX4_stayFor_20 : decode cX4_stayFor 20 = .ok (.return_, 1) := by decide +kernel
theorem dX4_takeLoan_0 : decode cX4_takeLoan 0 = .ok (.aload_n 0, 1) := by decide +kernel
theorem dX4_takeLoan_1 : decode cX4_takeLoan 1 = .ok (.iload_n 1, 1) := by decide +kernel
theorem dX4_takeLoan_2 : decode cX4_takeLoan 2 = .ok (.putfield 27, 3) := by decide +kernel
theorem dX4_takeLoan_5 : decode cX4_takeLoan 5 = .ok (.aload_n 0, 1) := by decide +kernel
theorem dX4_takeLoan_6 : decode cX4_takeLoan 6 = .ok (.aload_n 0, 1) := by decide +kernel
theorem dX4_takeLoan_7 : decode cX4_takeLoan 7 = .ok (.getfield 21, 3) := by decide +kernel
theorem dX4_takeLoan_10 : decode cX4_takeLoan 10 = .ok (.putfield 30, 3) := by decide +kernel
theorem dX4_takeLoan_13 : decode cX4_takeLoan 13 = .ok (.aload_n 0, 1) := by decide +kernel
theorem dX4_takeLoan_14 : decode cX4_takeLoan 14 = .ok (.aload_n 0, 1) := by decide +kernel
theorem dX4_takeLoan_15 : decode cX4_takeLoan 15 = .ok (.getfield 24, 3) := by decide +kernel
theorem dX4_takeLoan_18 : decode cX4_takeLoan 18 = .ok (.putfield 33, 3) := by decide +kernel
theorem dX4_takeLoan_21 : decode cX4_takeLoan 21 = .ok (.return_, 1) := by decide +kernel
theorem dX4_owedByShore_0 : decode cX4_owedByShore 0 = .ok (.aload_n 0, 1) := by decide +kernel
theorem dX4_owedByShore_1 : decode cX4_owedByShore 1 = .ok (.getfield 27, 3) := by decide +kernel
theorem dX4_owedByShore_4 : decode cX4_owedByShore 4 = .ok (.iload_n 1, 1) := by decide +kernel
theorem dX4_owedByShore_5 : decode cX4_owedByShore 5 = .ok (.aload_n 0, 1) := by decide +kernel
theorem dX4_owedByShore_6 : decode cX4_owedByShore 6 = .ok (.getfield 21, 3) := by decide +kernel
theorem dX4_owedByShore_9 : decode cX4_owedByShore 9 = .ok (.aload_n 0, 1) := by decide +kernel
theorem dX4_owedByShore_10 : decode cX4_owedByShore 10 = .ok (.getfield 30, 3) := by decide +kernel
theorem dX4_owedByShore_13 : decode cX4_owedByShore 13 = .ok (.isub, 1) := by decide +kernel
theorem dX4_owedByShore_14 : decode cX4_owedByShore 14 = .ok (.invokestatic 58, 3) := by decide +kernel
theorem dX4_owedByShore_17 : decode cX4_owedByShore 17 = .ok (.ireturn, 1) := by decide +kernel
theorem dX4_owedByOwn_0 : decode cX4_owedByOwn 0 = .ok (.aload_n 0, 1) := by decide +kernel
theorem dX4_owedByOwn_1 : decode cX4_owedByOwn 1 = .ok (.getfield 27, 3) := by decide +kernel
theorem dX4_owedByOwn_4 : decode cX4_owedByOwn 4 = .ok (.iload_n 1, 1) := by decide +kernel
theorem dX4_owedByOwn_5 : decode cX4_owedByOwn 5 = .ok (.aload_n 0, 1) := by decide +kernel
theorem dX4_owedByOwn_6 : decode cX4_owedByOwn 6 = .ok (.getfield 24, 3) := by decide +kernel
theorem dX4_owedByOwn_9 : decode cX4_owedByOwn 9 = .ok (.aload_n 0, 1) := by decide +kernel
theorem dX4_owedByOwn_10 : decode cX4_owedByOwn 10 = .ok (.getfield 33, 3) := by decide +kernel
theorem dX4_owedByOwn_13 : decode cX4_owedByOwn 13 = .ok (.isub, 1) := by decide +kernel
theorem dX4_owedByOwn_14 : decode cX4_owedByOwn 14 = .ok (.invokestatic 58, 3) := by decide +kernel
theorem dX4_owedByOwn_17 : decode cX4_owedByOwn 17 = .ok (.ireturn, 1) := by decide +kernel
theorem dX4_grown_0 : decode cX4_grown 0 = .ok (.iload_n 0, 1) := by decide +kernel
theorem dX4_grown_1 : decode cX4_grown 1 = .ok (.i2l, 1) := by decide +kernel
theorem dX4_grown_2 : decode cX4_grown 2 = .ok (.lstore_n 3, 1) := by decide +kernel
theorem dX4_grown_3 : decode cX4_grown 3 = .ok (.iconst 0, 1) := by decide +kernel
theorem dX4_grown_4 : decode cX4_grown 4 = .ok (.istore 5, 2) := by decide +kernel
theorem dX4_grown_6 : decode cX4_grown 6 = .ok (.iload 5, 2) := by decide +kernel
theorem dX4_grown_8 : decode cX4_grown 8 = .ok (.iload_n 2, 1) := by decide +kernel
theorem dX4_grown_9 : decode cX4_grown 9 = .ok (.if_icmp .ge 26, 3) := by decide +kernel
theorem dX4_grown_12 : decode cX4_grown 12 = .ok (.lload_n 3, 1) := by decide +kernel
theorem dX4_grown_13 : decode cX4_grown 13 = .ok (.lload_n 3, 1) := by decide +kernel
theorem dX4_grown_14 : decode cX4_grown 14 = .ok (.iload_n 1, 1) := by decide +kernel
theorem dX4_grown_15 : decode cX4_grown 15 = .ok (.i2l, 1) := by decide +kernel
theorem dX4_grown_16 : decode cX4_grown 16 = .ok (.lmul, 1) := by decide +kernel
theorem dX4_grown_17 : decode cX4_grown 17 = .ok (.ldc2_w 62, 3) := by decide +kernel
theorem dX4_grown_20 : decode cX4_grown 20 = .ok (.ldiv, 1) := by decide +kernel
theorem dX4_grown_21 : decode cX4_grown 21 = .ok (.ladd, 1) := by decide +kernel
theorem dX4_grown_22 : decode cX4_grown 22 = .ok (.ldc2_w 64, 3) := by decide +kernel
theorem dX4_grown_25 : decode cX4_grown 25 = .ok (.invokestatic 66, 3) := by decide +kernel
theorem dX4_grown_28 : decode cX4_grown 28 = .ok (.lstore_n 3, 1) := by decide +kernel
theorem dX4_grown_29 : decode cX4_grown 29 = .ok (.iinc 5 1, 3) := by decide +kernel
theorem dX4_grown_32 : decode cX4_grown 32 = .ok (.goto (-26), 3) := by decide +kernel
theorem dX4_grown_35 : decode cX4_grown 35 = .ok (.lload_n 3, 1) := by decide +kernel
theorem dX4_grown_36 : decode cX4_grown 36 = .ok (.l2i, 1) := by decide +kernel
theorem dX4_grown_37 : decode cX4_grown 37 = .ok (.ireturn, 1) := by decide +kernel
theorem dX5_init_0 : decode cX5_init 0 = .ok (.aload_n 0, 1) := by decide +kernel
theorem dX5_init_1 : decode cX5_init 1 = .ok (.invokespecial 3, 3) := by decide +kernel
theorem dX5_init_4 : decode cX5_init 4 = .ok (.aload_n 0, 1) := by decide +kernel
theorem dX5_init_5 : decode cX5_init 5 = .ok (.sipush 400, 3) := by decide +kernel
theorem dX5_init_8 : decode cX5_init 8 = .ok (.newarray .int, 2) := by decide +kernel
theorem dX5_init_10 : decode cX5_init 10 = .ok (.putfield 9, 3) := by decide +kernel
theorem dX5_init_13 : decode cX5_init 13 = .ok (.aload_n 0, 1) := by decide +kernel
theorem dX5_init_14 : decode cX5_init 14 = .ok (.iconst 0, 1) := by decide +kernel
theorem dX5_init_15 : decode cX5_init 15 = .ok (.putfield 15, 3) := by decide +kernel
theorem dX5_init_18 : decode cX5_init 18 = .ok (.aload_n 0, 1) := by decide +kernel
theorem dX5_init_19 : decode cX5_init 19 = .ok (.iconst 0, 1) := by decide +kernel
theorem dX5_init_20 : decode cX5_init 20 = .ok (.putfield 19, 3) := by decide +kernel
theorem dX5_init_23 : decode cX5_init 23 = .ok (.aload_n 0, 1) := by decide +kernel
theorem dX5_init_24 : decode cX5_init 24 = .ok (.iconst 0, 1) := by decide +kernel
theorem dX5_init_25 : decode cX5_init 25 = .ok (.putfield 22, 3) := by decide +kernel
theorem dX5_init_28 : decode cX5_init 28 = .ok (.aload_n 0, 1) := by decide +kernel
theorem dX5_init_29 : decode cX5_init 29 = .ok (.iconst 0, 1) := by decide +kernel
theorem dX5_init_30 : decode cX5_init 30 = .ok (.putfield 25, 3) := by decide +kernel
theorem dX5_init_33 : decode cX5_init 33 = .ok (.aload_n 0, 1) := by decide +kernel
theorem dX5_init_34 : decode cX5_init 34 = .ok (.iconst 0, 1) := by decide +kernel
theorem dX5_init_35 : decode cX5_init 35 = .ok (.putfield 28, 3) := by decide +kernel
theorem dX5_init_38 : decode cX5_init 38 = .ok (.aload_n 0, 1) := by decide +kernel
theorem dX5_init_39 : decode cX5_init 39 = .ok (.iconst 0, 1) := by decide +kernel
theorem dX5_init_40 : decode cX5_init 40 = .ok (.putfield 31, 3) := by decide +kernel
theorem dX5_init_43 : decode cX5_init 43 = .ok (.aload_n 0, 1) := by decide +kernel
theorem dX5_init_44 : decode cX5_init 44 = .ok (.iconst 0, 1) := by decide +kernel
theorem dX5_init_45 : decode cX5_init 45 = .ok (.putfield 34, 3) := by decide +kernel
theorem dX5_init_48 : decode cX5_init 48 = .ok (.return_, 1) := by decide +kernel
theorem dX5_append_0 : decode cX5_append 0 = .ok (.iload_n 3, 1) := by decide +kernel
theorem dX5_append_1 : decode cX5_append 1 = .ok (.iconst 1, 1) := by decide +kernel
theorem dX5_append_2 : decode cX5_append 2 = .ok (.isub, 1) := by decide +kernel
theorem dX5_append_3 : decode cX5_append 3 = .ok (.istore 4, 2) := by decide +kernel
theorem dX5_append_5 : decode cX5_append 5 = .ok (.iload 4, 2) := by decide +kernel
theorem dX5_append_7 : decode cX5_append 7 = .ok (.ifCond .lt 50, 3) := by decide +kernel
theorem dX5_append_10 : decode cX5_append 10 = .ok (.aload_n 0, 1) := by decide +kernel
theorem dX5_append_11 : decode cX5_append 11 = .ok (.getfield 15, 3) := by decide +kernel
theorem dX5_append_14 : decode cX5_append 14 = .ok (.sipush 400, 3) := by decide +kernel
theorem dX5_append_17 : decode cX5_append 17 = .ok (.if_icmp .ge 40, 3) := by decide +kernel
theorem dX5_append_20 : decode cX5_append 20 = .ok (.aload_n 0, 1) := by decide +kernel
theorem dX5_append_21 : decode cX5_append 21 = .ok (.getfield 9, 3) := by decide +kernel
theorem dX5_append_24 : decode cX5_append 24 = .ok (.aload_n 0, 1) := by decide +kernel
theorem dX5_append_25 : decode cX5_append 25 = .ok (.getfield 15, 3) := by decide +kernel
theorem dX5_append_28 : decode cX5_append 28 = .ok (.lload_n 1, 1) := by decide +kernel
theorem dX5_append_29 : decode cX5_append 29 = .ok (.bipush 8, 2) := by decide +kernel
theorem dX5_append_31 : decode cX5_append 31 = .ok (.iload 4, 2) := by decide +kernel
theorem dX5_append_33 : decode cX5_append 33 = .ok (.imul, 1) := by decide +kernel
theorem dX5_append_34 : decode cX5_append 34 = .ok (.lushr, 1) := by decide +kernel
theorem dX5_append_35 : decode cX5_append 35 = .ok (.ldc2_w 37, 3) := by decide +kernel
theorem dX5_append_38 : decode cX5_append 38 = .ok (.land, 1) := by decide +kernel
theorem dX5_append_39 : decode cX5_append 39 = .ok (.l2i, 1) := by decide +kernel
theorem dX5_append_40 : decode cX5_append 40 = .ok (.iastore, 1) := by decide +kernel
theorem dX5_append_41 : decode cX5_append 41 = .ok (.aload_n 0, 1) := by decide +kernel
theorem dX5_append_42 : decode cX5_append 42 = .ok (.dup, 1) := by decide +kernel
theorem dX5_append_43 : decode cX5_append 43 = .ok (.getfield 15, 3) := by decide +kernel
theorem dX5_append_46 : decode cX5_append 46 = .ok (.iconst 1, 1) := by decide +kernel
theorem dX5_append_47 : decode cX5_append 47 = .ok (.iadd, 1) := by decide +kernel
theorem dX5_append_48 : decode cX5_append 48 = .ok (.putfield 15, 3) := by decide +kernel
theorem dX5_append_51 : decode cX5_append 51 = .ok (.iinc 4 (-1), 3) := by decide +kernel
theorem dX5_append_54 : decode cX5_append 54 = .ok (.goto (-49), 3) := by decide +kernel
theorem dX5_append_57 : decode cX5_append 57 = .ok (.return_, 1) := by decide +kernel
theorem dX5_readLeague_0 : decode cX5_readLeague 0 = .ok (.aload_n 0, 1) := by decide +kernel
theorem dX5_readLeague_1 : decode cX5_readLeague 1 = .ok (.iconst 0, 1) := by decide +kernel
theorem dX5_readLeague_2 : decode cX5_readLeague 2 = .ok (.putfield 31, 3) := by decide +kernel
theorem dX5_readLeague_5 : decode cX5_readLeague 5 = .ok (.aload_n 0, 1) := by decide +kernel
theorem dX5_readLeague_6 : decode cX5_readLeague 6 = .ok (.iconst 0, 1) := by decide +kernel
theorem dX5_readLeague_7 : decode cX5_readLeague 7 = .ok (.putfield 34, 3) := by decide +kernel
theorem dX5_readLeague_10 : decode cX5_readLeague 10 = .ok (.aload_n 0, 1) := by decide +kernel
theorem dX5_readLeague_11 : decode cX5_readLeague 11 = .ok (.iconst 0, 1) := by decide +kernel
theorem dX5_readLeague_12 : decode cX5_readLeague 12 = .ok (.putfield 25, 3) := by decide +kernel
theorem dX5_readLeague_15 : decode cX5_readLeague 15 = .ok (.aload_n 1, 1) := by decide +kernel
theorem dX5_readLeague_16 : decode cX5_readLeague 16 = .ok (.iconst 0, 1) := by decide +kernel
theorem dX5_readLeague_17 : decode cX5_readLeague 17 = .ok (.putfield 39, 3) := by decide +kernel
theorem dX5_readLeague_20 : decode cX5_readLeague 20 = .ok (.aload_n 1, 1) := by decide +kernel
theorem dX5_readLeague_21 : decode cX5_readLeague 21 = .ok (.iconst 0, 1) := by decide +kernel
theorem dX5_readLeague_22 : decode cX5_readLeague 22 = .ok (.putfield 44, 3) := by decide +kernel
theorem dX5_readLeague_25 : decode cX5_readLeague 25 = .ok (.aload_n 0, 1) := by decide +kernel
theorem dX5_readLeague_26 : decode cX5_readLeague 26 = .ok (.invokevirtual 47, 3) := by decide +kernel
theorem dX5_readLeague_29 : decode cX5_readLeague 29 = .ok (.aload_n 0, 1) := by decide +kernel
theorem dX5_readLeague_30 : decode cX5_readLeague 30 = .ok (.ldc 50, 2) := by decide +kernel
theorem dX5_readLeague_32 : decode cX5_readLeague 32 = .ok (.invokevirtual 52, 3) := by decide +kernel
theorem dX5_readLeague_35 : decode cX5_readLeague 35 = .ok (.aload_n 1, 1) := by decide +kernel
theorem dX5_readLeague_36 : decode cX5_readLeague 36 = .ok (.aload_n 0, 1) := by decide +kernel
theorem dX5_readLeague_37 : decode cX5_readLeague 37 = .ok (.iconst 1, 1) := by decide +kernel
theorem dX5_readLeague_38 : decode cX5_readLeague 38 = .ok (.iconst 5, 1) := by decide +kernel
theorem dX5_readLeague_39 : decode cX5_readLeague 39 = .ok (.ldc 56, 2) := by decide +kernel
theorem dX5_readLeague_41 : decode cX5_readLeague 41 = .ok (.invokevirtual 57, 3) := by decide +kernel
theorem dX5_readLeague_44 : decode cX5_readLeague 44 = .ok (.putfield 61, 3) := by decide +kernel
theorem dX5_readLeague_47 : decode cX5_readLeague 47 = .ok (.aload_n 1, 1) := by decide +kernel
theorem dX5_readLeague_48 : decode cX5_readLeague 48 = .ok (.aload_n 0, 1) := by decide +kernel
theorem dX5_readLeague_49 : decode cX5_readLeague 49 = .ok (.iconst 0, 1) := by decide +kernel
theorem dX5_readLeague_50 : decode cX5_readLeague 50 = .ok (.bipush 20, 2) := by decide +kernel
theorem dX5_readLeague_52 : decode cX5_readLeague 52 = .ok (.ldc 56, 2) := by decide +kernel
theorem dX5_readLeague_54 : decode cX5_readLeague 54 = .ok (.invokevirtual 57, 3) := by decide +kernel
theorem dX5_readLeague_57 : decode cX5_readLeague 57 = .ok (.putfield 64, 3) := by decide +kernel
theorem dX5_readLeague_60 : decode cX5_readLeague 60 = .ok (.aload_n 0, 1) := by decide +kernel
theorem dX5_readLeague_61 : decode cX5_readLeague 61 = .ok (.invokevirtual 67, 3) := by decide +kernel
theorem dX5_readLeague_64 : decode cX5_readLeague 64 = .ok (.iconst 0, 1) := by decide +kernel
theorem dX5_readLeague_65 : decode cX5_readLeague 65 = .ok (.istore_n 2, 1) := by decide +kernel
theorem dX5_readLeague_66 : decode cX5_readLeague 66 = .ok (.iload_n 2, 1) := by decide +kernel
theorem dX5_readLeague_67 : decode cX5_readLeague 67 = .ok (.bipush 8, 2) := by decide +kernel
theorem dX5_readLeague_69 : decode cX5_readLeague 69 = .ok (.if_icmp .gt 30, 3) := by decide +kernel
theorem dX5_readLeague_72 : decode cX5_readLeague 72 = .ok (.aload_n 0, 1) := by decide +kernel
theorem dX5_readLeague_73 : decode cX5_readLeague 73 = .ok (.getfield 31, 3) := by decide +kernel
theorem dX5_readLeague_76 : decode cX5_readLeague 76 = .ok (.ifCond .ne 23, 3) := by decide +kernel
theorem dX5_readLeague_79 : decode cX5_readLeague 79 = .ok (.aload_n 0, 1) := by decide +kernel
theorem dX5_readLeague_80 : decode cX5_readLeague 80 = .ok (.ldc 70, 2) := by decide +kernel
theorem dX5_readLeague_82 : decode cX5_readLeague 82 = .ok (.invokevirtual 72, 3) := by decide +kernel
theorem dX5_readLeague_85 : decode cX5_readLeague 85 = .ok (.ifCond .eq 14, 3) := by decide +kernel
theorem dX5_readLeague_88 : decode cX5_readLeague 88 = .ok (.aload_n 0, 1) := by decide +kernel
theorem dX5_readLeague_89 : decode cX5_readLeague 89 = .ok (.aload_n 1, 1) := by decide +kernel
theorem dX5_readLeague_90 : decode cX5_readLeague 90 = .ok (.invokevirtual 76, 3) := by decide +kernel
theorem dX5_readLeague_93 : decode cX5_readLeague 93 = .ok (.iinc 2 1, 3) := by decide +kernel
theorem dX5_readLeague_96 : decode cX5_readLeague 96 = .ok (.goto (-30), 3) := by decide +kernel
theorem dX5_readLeague_99 : decode cX5_readLeague 99 = .ok (.iconst 0, 1) := by decide +kernel
theorem dX5_readLeague_100 : decode cX5_readLeague 100 = .ok (.istore_n 2, 1) := by decide +kernel
theorem dX5_readLeague_101 : decode cX5_readLeague 101 = .ok (.iload_n 2, 1) := by decide +kernel
theorem dX5_readLeague_102 : decode cX5_readLeague 102 = .ok (.iconst 4, 1) := by decide +kernel
theorem dX5_readLeague_103 : decode cX5_readLeague 103 = .ok (.if_icmp .gt 30, 3) := by decide +kernel
theorem dX5_readLeague_106 : decode cX5_readLeague 106 = .ok (.aload_n 0, 1) := by decide +kernel
theorem dX5_readLeague_107 : decode cX5_readLeague 107 = .ok (.getfield 31, 3) := by decide +kernel
theorem dX5_readLeague_110 : decode cX5_readLeague 110 = .ok (.ifCond .ne 23, 3) := by decide +kernel
theorem dX5_readLeague_113 : decode cX5_readLeague 113 = .ok (.aload_n 0, 1) := by decide +kernel
theorem dX5_readLeague_114 : decode cX5_readLeague 114 = .ok (.ldc 80, 2) := by decide +kernel
theorem dX5_readLeague_116 : decode cX5_readLeague 116 = .ok (.invokevirtual 72, 3) := by decide +kernel
theorem dX5_readLeague_119 : decode cX5_readLeague 119 = .ok (.ifCond .eq 14, 3) := by decide +kernel
theorem dX5_readLeague_122 : decode cX5_readLeague 122 = .ok (.aload_n 0, 1) := by decide +kernel
theorem dX5_readLeague_123 : decode cX5_readLeague 123 = .ok (.aload_n 1, 1) := by decide +kernel
theorem dX5_readLeague_124 : decode cX5_readLeague 124 = .ok (.invokevirtual 82, 3) := by decide +kernel
theorem dX5_readLeague_127 : decode cX5_readLeague 127 = .ok (.iinc 2 1, 3) := by decide +kernel
theorem dX5_readLeague_130 : decode cX5_readLeague 130 = .ok (.goto (-29), 3) := by decide +kernel
theorem dX5_readLeague_133 : decode cX5_readLeague 133 = .ok (.aload_n 0, 1) := by decide +kernel
theorem dX5_readLeague_134 : decode cX5_readLeague 134 = .ok (.getfield 19, 3) := by decide +kernel
theorem dX5_readLeague_137 : decode cX5_readLeague 137 = .ok (.ifCond .eq 8, 3) := by decide +kernel
theorem dX5_readLeague_140 : decode cX5_readLeague 140 = .ok (.aload_n 0, 1) := by decide +kernel
theorem dX5_readLeague_141 : decode cX5_readLeague 141 = .ok (.iconst 1, 1) := by decide +kernel
theorem dX5_readLeague_142 : decode cX5_readLeague 142 = .ok (.invokevirtual 85, 3) := by decide +kernel
theorem dX5_readLeague_145 : decode cX5_readLeague 145 = .ok (.return_, 1) := by decide +kernel
theorem dX5_readWay_0 : decode cX5_readWay 0 = .ok (.aload_n 1, 1) := by decide +kernel
theorem dX5_readWay_1 : decode cX5_readWay 1 = .ok (.getfield 39, 3) := by decide +kernel
theorem dX5_readWay_4 : decode cX5_readWay 4 = .ok (.bipush 8, 2) := by decide +kernel
theorem dX5_readWay_6 : decode cX5_readWay 6 = .ok (.if_icmp .lt 9, 3) := by decide +kernel
theorem dX5_readWay_9 : decode cX5_readWay 9 = .ok (.aload_n 0, 1) := by decide +kernel
theorem dX5_readWay_10 : decode cX5_readWay 10 = .ok (.iconst 3, 1) := by decide +kernel
theorem dX5_readWay_11 : decode cX5_readWay 11 = .ok (.invokevirtual 85, 3) := by decide +kernel
theorem dX5_readWay_14 : decode cX5_readWay 14 = .ok (.return_, 1) := by decide +kernel
theorem dX5_readWay_15 : decode cX5_readWay 15 = .ok (.aload_n 1, 1) := by decide +kernel
theorem dX5_readWay_16 : decode cX5_readWay 16 = .ok (.getfield 89, 3) := by decide +kernel
theorem dX5_readWay_19 : decode cX5_readWay 19 = .ok (.aload_n 1, 1) := by decide +kernel
theorem dX5_readWay_20 : decode cX5_readWay 20 = .ok (.getfield 39, 3) := by decide +kernel
theorem dX5_readWay_23 : decode cX5_readWay 23 = .ok (.aaload, 1) := by decide +kernel
theorem dX5_readWay_24 : decode cX5_readWay 24 = .ok (.astore_n 2, 1) := by decide +kernel
theorem dX5_readWay_25 : decode cX5_readWay 25 = .ok (.aload_n 0, 1) := by decide +kernel
theorem dX5_readWay_26 : decode cX5_readWay 26 = .ok (.ldc 70, 2) := by decide +kernel
theorem dX5_readWay_28 : decode cX5_readWay 28 = .ok (.invokevirtual 52, 3) := by decide +kernel
theorem dX5_readWay_31 : decode cX5_readWay 31 = .ok (.aload_n 2, 1) := by decide +kernel
theorem dX5_readWay_32 : decode cX5_readWay 32 = .ok (.aload_n 0, 1) := by decide +kernel
theorem dX5_readWay_33 : decode cX5_readWay 33 = .ok (.iconst 0, 1) := by decide +kernel
theorem dX5_readWay_34 : decode cX5_readWay 34 = .ok (.aload_n 1, 1) := by decide +kernel
theorem dX5_readWay_35 : decode cX5_readWay 35 = .ok (.getfield 61, 3) := by decide +kernel
theorem dX5_readWay_38 : decode cX5_readWay 38 = .ok (.iconst 1, 1) := by decide +kernel
theorem dX5_readWay_39 : decode cX5_readWay 39 = .ok (.isub, 1) := by decide +kernel
theorem dX5_readWay_40 : decode cX5_readWay 40 = .ok (.ldc 56, 2) := by decide +kernel
theorem dX5_readWay_42 : decode cX5_readWay 42 = .ok (.invokevirtual 57, 3) := by decide +kernel
theorem dX5_readWay_45 : decode cX5_readWay 45 = .ok (.putfield 93, 3) := by decide +kernel
theorem dX5_readWay_48 : decode cX5_readWay 48 = .ok (.aload_n 2, 1) := by decide +kernel
theorem dX5_readWay_49 : decode cX5_readWay 49 = .ok (.aload_n 0, 1) := by decide +kernel
theorem dX5_readWay_50 : decode cX5_readWay 50 = .ok (.iconst 0, 1) := by decide +kernel
theorem dX5_readWay_51 : decode cX5_readWay 51 = .ok (.aload_n 1, 1) := by decide +kernel
theorem dX5_readWay_52 : decode cX5_readWay 52 = .ok (.getfield 61, 3) := by decide +kernel
theorem dX5_readWay_55 : decode cX5_readWay 55 = .ok (.iconst 1, 1) := by decide +kernel
theorem dX5_readWay_56 : decode cX5_readWay 56 = .ok (.isub, 1) := by decide +kernel
theorem dX5_readWay_57 : decode cX5_readWay 57 = .ok (.aload_n 2, 1) := by decide +kernel
theorem dX5_readWay_58 : decode cX5_readWay 58 = .ok (.getfield 93, 3) := by decide +kernel
theorem dX5_readWay_61 : decode cX5_readWay 61 = .ok (.invokevirtual 57, 3) := by decide +kernel
theorem dX5_readWay_64 : decode cX5_readWay 64 = .ok (.putfield 98, 3) := by decide +kernel
theorem dX5_readWay_67 : decode cX5_readWay 67 = .ok (.aload_n 2, 1) := by decide +kernel
theorem dX5_readWay_68 : decode cX5_readWay 68 = .ok (.aload_n 0, 1) := by decide +kernel
theorem dX5_readWay_69 : decode cX5_readWay 69 = .ok (.iconst 1, 1) := by decide +kernel
theorem dX5_readWay_70 : decode cX5_readWay 70 = .ok (.bipush 20, 2) := by decide +kernel
theorem dX5_readWay_72 : decode cX5_readWay 72 = .ok (.ldc 56, 2) := by decide +kernel
theorem dX5_readWay_74 : decode cX5_readWay 74 = .ok (.invokevirtual 57, 3) := by decide +kernel
theorem dX5_readWay_77 : decode cX5_readWay 77 = .ok (.putfield 101, 3) := by decide +kernel
theorem dX5_readWay_80 : decode cX5_readWay 80 = .ok (.aload_n 2, 1) := by decide +kernel
theorem dX5_readWay_81 : decode cX5_readWay 81 = .ok (.aload_n 0, 1) := by decide +kernel
theorem dX5_readWay_82 : decode cX5_readWay 82 = .ok (.iconst 0, 1) := by decide +kernel
theorem dX5_readWay_83 : decode cX5_readWay 83 = .ok (.aload_n 2, 1) := by decide +kernel
theorem dX5_readWay_84 : decode cX5_readWay 84 = .ok (.getfield 101, 3) := by decide +kernel
theorem dX5_readWay_87 : decode cX5_readWay 87 = .ok (.ldc 56, 2) := by decide +kernel
theorem dX5_readWay_89 : decode cX5_readWay 89 = .ok (.invokevirtual 57, 3) := by decide +kernel
theorem dX5_readWay_92 : decode cX5_readWay 92 = .ok (.putfield 104, 3) := by decide +kernel
theorem dX5_readWay_95 : decode cX5_readWay 95 = .ok (.aload_n 0, 1) := by decide +kernel
theorem dX5_readWay_96 : decode cX5_readWay 96 = .ok (.invokevirtual 67, 3) := by decide +kernel
theorem dX5_readWay_99 : decode cX5_readWay 99 = .ok (.aload_n 1, 1) := by decide +kernel
theorem dX5_readWay_100 : decode cX5_readWay 100 = .ok (.dup, 1) := by decide +kernel
theorem dX5_readWay_101 : decode cX5_readWay 101 = .ok (.getfield 39, 3) := by decide +kernel
theorem dX5_readWay_104 : decode cX5_readWay 104 = .ok (.iconst 1, 1) := by decide +kernel
theorem dX5_readWay_105 : decode cX5_readWay 105 = .ok (.iadd, 1) := by decide +kernel
theorem dX5_readWay_106 : decode cX5_readWay 106 = .ok (.putfield 39, 3) := by decide +kernel
theorem dX5_readWay_109 : decode cX5_readWay 109 = .ok (.return_, 1) := by decide +kernel
theorem dX5_readPerson_0 : decode cX5_readPerson 0 = .ok (.aload_n 1, 1) := by decide +kernel
theorem dX5_readPerson_1 : decode cX5_readPerson 1 = .ok (.getfield 44, 3) := by decide +kernel
theorem dX5_readPerson_4 : decode cX5_readPerson 4 = .ok (.iconst 4, 1) := by decide +kernel
theorem dX5_readPerson_5 : decode cX5_readPerson 5 = .ok (.if_icmp .lt 9, 3) := by decide +kernel
theorem dX5_readPerson_8 : decode cX5_readPerson 8 = .ok (.aload_n 0, 1) := by decide +kernel
theorem dX5_readPerson_9 : decode cX5_readPerson 9 = .ok (.iconst 3, 1) := by decide +kernel
theorem dX5_readPerson_10 : decode cX5_readPerson 10 = .ok (.invokevirtual 85, 3) := by decide +kernel
theorem dX5_readPerson_13 : decode cX5_readPerson 13 = .ok (.return_, 1) := by decide +kernel
theorem dX5_readPerson_14 : decode cX5_readPerson 14 = .ok (.aload_n 0, 1) := by decide +kernel
theorem dX5_readPerson_15 : decode cX5_readPerson 15 = .ok (.ldc 80, 2) := by decide +kernel
theorem dX5_readPerson_17 : decode cX5_readPerson 17 = .ok (.invokevirtual 52, 3) := by decide +kernel
theorem dX5_readPerson_20 : decode cX5_readPerson 20 = .ok (.aload_n 0, 1) := by decide +kernel
theorem dX5_readPerson_21 : decode cX5_readPerson 21 = .ok (.invokevirtual 107, 3) := by decide +kernel
theorem dX5_readPerson_24 : decode cX5_readPerson 24 = .ok (.istore_n 2, 1) := by decide +kernel
theorem dX5_readPerson_25 : decode cX5_readPerson 25 = .ok (.aload_n 0, 1) := by decide +kernel
theorem dX5_readPerson_26 : decode cX5_readPerson 26 = .ok (.iconst 0, 1) := by decide +kernel
theorem dX5_readPerson_27 : decode cX5_readPerson 27 = .ok (.aload_n 1, 1) := by decide +kernel
theorem dX5_readPerson_28 : decode cX5_readPerson 28 = .ok (.getfield 61, 3) := by decide +kernel
theorem dX5_readPerson_31 : decode cX5_readPerson 31 = .ok (.iconst 1, 1) := by decide +kernel
theorem dX5_readPerson_32 : decode cX5_readPerson 32 = .ok (.isub, 1) := by decide +kernel
theorem dX5_readPerson_33 : decode cX5_readPerson 33 = .ok (.ldc 56, 2) := by decide +kernel
theorem dX5_readPerson_35 : decode cX5_readPerson 35 = .ok (.invokevirtual 57, 3) := by decide +kernel
theorem dX5_readPerson_38 : decode cX5_readPerson 38 = .ok (.istore_n 3, 1) := by decide +kernel
theorem dX5_readPerson_39 : decode cX5_readPerson 39 = .ok (.aload_n 0, 1) := by decide +kernel
theorem dX5_readPerson_40 : decode cX5_readPerson 40 = .ok (.iconst 0, 1) := by decide +kernel
theorem dX5_readPerson_41 : decode cX5_readPerson 41 = .ok (.bipush 99, 2) := by decide +kernel
theorem dX5_readPerson_43 : decode cX5_readPerson 43 = .ok (.ldc 56, 2) := by decide +kernel
theorem dX5_readPerson_45 : decode cX5_readPerson 45 = .ok (.invokevirtual 57, 3) := by decide +kernel
theorem dX5_readPerson_48 : decode cX5_readPerson 48 = .ok (.istore 4, 2) := by decide +kernel
theorem dX5_readPerson_50 : decode cX5_readPerson 50 = .ok (.aload_n 0, 1) := by decide +kernel
theorem dX5_readPerson_51 : decode cX5_readPerson 51 = .ok (.invokevirtual 67, 3) := by decide +kernel
theorem dX5_readPerson_54 : decode cX5_readPerson 54 = .ok (.aload_n 1, 1) := by decide +kernel
theorem dX5_readPerson_55 : decode cX5_readPerson 55 = .ok (.getfield 111, 3) := by decide +kernel
theorem dX5_readPerson_58 : decode cX5_readPerson 58 = .ok (.aload_n 1, 1) := by decide +kernel
theorem dX5_readPerson_59 : decode cX5_readPerson 59 = .ok (.getfield 44, 3) := by decide +kernel
theorem dX5_readPerson_62 : decode cX5_readPerson 62 = .ok (.aaload, 1) := by decide +kernel
theorem dX5_readPerson_63 : decode cX5_readPerson 63 = .ok (.iload_n 2, 1) := by decide +kernel
theorem dX5_readPerson_64 : decode cX5_readPerson 64 = .ok (.iload_n 3, 1) := by decide +kernel
theorem dX5_readPerson_65 : decode cX5_readPerson 65 = .ok (.iload 4, 2) := by decide +kernel
theorem dX5_readPerson_67 : decode cX5_readPerson 67 = .ok (.invokevirtual 115, 3) := by decide +kernel
theorem dX5_readPerson_70 : decode cX5_readPerson 70 = .ok (.aload_n 1, 1) := by decide +kernel
theorem dX5_readPerson_71 : decode cX5_readPerson 71 = .ok (.dup, 1) := by decide +kernel
theorem dX5_readPerson_72 : decode cX5_readPerson 72 = .ok (.getfield 44, 3) := by decide +kernel
theorem dX5_readPerson_75 : decode cX5_readPerson 75 = .ok (.iconst 1, 1) := by decide +kernel
theorem dX5_readPerson_76 : decode cX5_readPerson 76 = .ok (.iadd, 1) := by decide +kernel
theorem dX5_readPerson_77 : decode cX5_readPerson 77 = .ok (.putfield 44, 3) := by decide +kernel
theorem dX5_readPerson_80 : decode cX5_readPerson 80 = .ok (.return_, 1) := by decide +kernel
theorem dX5_fail_0 : decode cX5_fail 0 = .ok (.aload_n 0, 1) := by decide +kernel
theorem dX5_fail_1 : decode cX5_fail 1 = .ok (.getfield 31, 3) := by decide +kernel
theorem dX5_fail_4 : decode cX5_fail 4 = .ok (.ifCond .ne 16, 3) := by decide +kernel
theorem dX5_fail_7 : decode cX5_fail 7 = .ok (.aload_n 0, 1) := by decide +kernel
theorem dX5_fail_8 : decode cX5_fail 8 = .ok (.iload_n 1, 1) := by decide +kernel
theorem dX5_fail_9 : decode cX5_fail 9 = .ok (.putfield 31, 3) := by decide +kernel
theorem dX5_fail_12 : decode cX5_fail 12 = .ok (.aload_n 0, 1) := by decide +kernel
theorem dX5_fail_13 : decode cX5_fail 13 = .ok (.aload_n 0, 1) := by decide +kernel
theorem dX5_fail_14 : decode cX5_fail 14 = .ok (.getfield 22, 3) := by decide +kernel
theorem dX5_fail_17 : decode cX5_fail 17 = .ok (.putfield 34, 3) := by decide +kernel
theorem dX5_fail_20 : decode cX5_fail 20 = .ok (.return_, 1) := by decide +kernel
theorem dX5_takeWord_0 : decode cX5_takeWord 0 = .ok (.aload_n 0, 1) := by decide +kernel
theorem dX5_takeWord_1 : decode cX5_takeWord 1 = .ok (.getfield 31, 3) := by decide +kernel
theorem dX5_takeWord_4 : decode cX5_takeWord 4 = .ok (.ifCond .ne 18, 3) := by decide +kernel
theorem dX5_takeWord_7 : decode cX5_takeWord 7 = .ok (.aload_n 0, 1) := by decide +kernel
theorem dX5_takeWord_8 : decode cX5_takeWord 8 = .ok (.aload_n 1, 1) := by decide +kernel
theorem dX5_takeWord_9 : decode cX5_takeWord 9 = .ok (.invokevirtual 72, 3) := by decide +kernel
theorem dX5_takeWord_12 : decode cX5_takeWord 12 = .ok (.ifCond .eq 10, 3) := by decide +kernel
theorem dX5_takeWord_15 : decode cX5_takeWord 15 = .ok (.aload_n 0, 1) := by decide +kernel
theorem dX5_takeWord_16 : decode cX5_takeWord 16 = .ok (.invokevirtual 47, 3) := by decide +kernel
theorem dX5_takeWord_19 : decode cX5_takeWord 19 = .ok (.goto 8, 3) := by decide +kernel
theorem dX5_takeWord_22 : decode cX5_takeWord 22 = .ok (.aload_n 0, 1) := by decide +kernel
theorem dX5_takeWord_23 : decode cX5_takeWord 23 = .ok (.iconst 1, 1) := by decide +kernel
theorem dX5_takeWord_24 : decode cX5_takeWord 24 = .ok (.invokevirtual 85, 3) := by decide +kernel
theorem dX5_takeWord_27 : decode cX5_takeWord 27 = .ok (.return_, 1) := by decide +kernel
theorem dX5_takeSort_0 : decode cX5_takeSort 0 = .ok (.iconst 1, 1) := by decide +kernel
theorem dX5_takeSort_1 : decode cX5_takeSort 1 = .ok (.istore_n 1, 1) := by decide +kernel
theorem dX5_takeSort_2 : decode cX5_takeSort 2 = .ok (.iload_n 1, 1) := by decide +kernel
theorem dX5_takeSort_3 : decode cX5_takeSort 3 = .ok (.iconst 5, 1) := by decide +kernel
theorem dX5_takeSort_4 : decode cX5_takeSort 4 = .ok (.if_icmp .gt 33, 3) := by decide +kernel
theorem dX5_takeSort_7 : decode cX5_takeSort 7 = .ok (.aload_n 0, 1) := by decide +kernel
theorem dX5_takeSort_8 : decode cX5_takeSort 8 = .ok (.getfield 31, 3) := by decide +kernel
theorem dX5_takeSort_11 : decode cX5_takeSort 11 = .ok (.ifCond .ne 20, 3) := by decide +kernel
theorem dX5_takeSort_14 : decode cX5_takeSort 14 = .ok (.aload_n 0, 1) := by decide +kernel
theorem dX5_takeSort_15 : decode cX5_takeSort 15 = .ok (.iload_n 1, 1) := by decide +kernel
theorem dX5_takeSort_16 : decode cX5_takeSort 16 = .ok (.invokestatic 121, 3) := by decide +kernel
theorem dX5_takeSort_19 : decode cX5_takeSort 19 = .ok (.invokevirtual 72, 3) := by decide +kernel
theorem dX5_takeSort_22 : decode cX5_takeSort 22 = .ok (.ifCond .eq 9, 3) := by decide +kernel
theorem dX5_takeSort_25 : decode cX5_takeSort 25 = .ok (.aload_n 0, 1) := by decide +kernel
theorem dX5_takeSort_26 : decode cX5_takeSort 26 = .ok (.invokevirtual 47, 3) := by decide +kernel
theorem dX5_takeSort_29 : decode cX5_takeSort 29 = .ok (.iload_n 1, 1) := by decide +kernel
theorem dX5_takeSort_30 : decode cX5_takeSort 30 = .ok (.ireturn, 1) := by decide +kernel
theorem dX5_takeSort_31 : decode cX5_takeSort 31 = .ok (.iinc 1 1, 3) := by decide +kernel
theorem dX5_takeSort_34 : decode cX5_takeSort 34 = .ok (.goto (-32), 3) := by decide +kernel
theorem dX5_takeSort_37 : decode cX5_takeSort 37 = .ok (.aload_n 0, 1) := by decide +kernel
theorem dX5_takeSort_38 : decode cX5_takeSort 38 = .ok (.iconst 1, 1) := by decide +kernel
theorem dX5_takeSort_39 : decode cX5_takeSort 39 = .ok (.invokevirtual 85, 3) := by decide +kernel
theorem dX5_takeSort_42 : decode cX5_takeSort 42 = .ok (.iconst 1, 1) := by decide +kernel
theorem dX5_takeSort_43 : decode cX5_takeSort 43 = .ok (.ireturn, 1) := by decide +kernel
theorem dX5_takeSign_0 : decode cX5_takeSign 0 = .ok (.aload_n 0, 1) := by decide +kernel
theorem dX5_takeSign_1 : decode cX5_takeSign 1 = .ok (.getfield 31, 3) := by decide +kernel
theorem dX5_takeSign_4 : decode cX5_takeSign 4 = .ok (.ifCond .ne 18, 3) := by decide +kernel
theorem dX5_takeSign_7 : decode cX5_takeSign 7 = .ok (.aload_n 0, 1) := by decide +kernel
theorem dX5_takeSign_8 : decode cX5_takeSign 8 = .ok (.getfield 19, 3) := by decide +kernel
theorem dX5_takeSign_11 : decode cX5_takeSign 11 = .ok (.iconst 3, 1) := by decide +kernel
theorem dX5_takeSign_12 : decode cX5_takeSign 12 = .ok (.if_icmp .ne 10, 3) := by decide +kernel
theorem dX5_takeSign_15 : decode cX5_takeSign 15 = .ok (.aload_n 0, 1) := by decide +kernel
theorem dX5_takeSign_16 : decode cX5_takeSign 16 = .ok (.invokevirtual 47, 3) := by decide +kernel
theorem dX5_takeSign_19 : decode cX5_takeSign 19 = .ok (.goto 8, 3) := by decide +kernel
theorem dX5_takeSign_22 : decode cX5_takeSign 22 = .ok (.aload_n 0, 1) := by decide +kernel
theorem dX5_takeSign_23 : decode cX5_takeSign 23 = .ok (.iconst 1, 1) := by decide +kernel
theorem dX5_takeSign_24 : decode cX5_takeSign 24 = .ok (.invokevirtual 85, 3) := by decide +kernel
theorem dX5_takeSign_27 : decode cX5_takeSign 27 = .ok (.return_, 1) := by decide +kernel
theorem dX5_takeNumber_0 : decode cX5_takeNumber 0 = .ok (.aload_n 0, 1) := by decide +kernel
theorem dX5_takeNumber_1 : decode cX5_takeNumber 1 = .ok (.getfield 31, 3) := by decide +kernel
theorem dX5_takeNumber_4 : decode cX5_takeNumber 4 = .ok (.ifCond .ne 11, 3) := by decide +kernel
theorem dX5_takeNumber_7 : decode cX5_takeNumber 7 = .ok (.aload_n 0, 1) := by decide +kernel
theorem dX5_takeNumber_8 : decode cX5_takeNumber 8 = .ok (.getfield 19, 3) := by decide +kernel
theorem dX5_takeNumber_11 : decode cX5_takeNumber 11 = .ok (.iconst 2, 1) := by decide +kernel
theorem dX5_takeNumber_12 : decode cX5_takeNumber 12 = .ok (.if_icmp .eq 10, 3) := by decide +kernel
theorem dX5_takeNumber_15 : decode cX5_takeNumber 15 = .ok (.aload_n 0, 1) := by decide +kernel
theorem dX5_takeNumber_16 : decode cX5_takeNumber 16 = .ok (.iconst 1, 1) := by decide +kernel
theorem dX5_takeNumber_17 : decode cX5_takeNumber 17 = .ok (.invokevirtual 85, 3) := by decide +kernel
theorem dX5_takeNumber_20 : decode cX5_takeNumber 20 = .ok (.iload_n 1, 1) := by decide +kernel
theorem dX5_takeNumber_21 : decode cX5_takeNumber 21 = .ok (.ireturn, 1) := by decide +kernel
theorem dX5_takeNumber_22 : decode cX5_takeNumber 22 = .ok (.aload_n 0, 1) := by decide +kernel
theorem dX5_takeNumber_23 : decode cX5_takeNumber 23 = .ok (.getfield 28, 3) := by decide +kernel
theorem dX5_takeNumber_26 : decode cX5_takeNumber 26 = .ok (.iload_n 1, 1) := by decide +kernel
theorem dX5_takeNumber_27 : decode cX5_takeNumber 27 = .ok (.iload_n 2, 1) := by decide +kernel
theorem dX5_takeNumber_28 : decode cX5_takeNumber 28 = .ok (.invokestatic 125, 3) := by decide +kernel
theorem dX5_takeNumber_31 : decode cX5_takeNumber 31 = .ok (.ifCond .ne 11, 3) := by decide +kernel
theorem dX5_takeNumber_34 : decode cX5_takeNumber 34 = .ok (.aload_n 0, 1) := by decide +kernel
theorem dX5_takeNumber_35 : decode cX5_takeNumber 35 = .ok (.getfield 28, 3) := by decide +kernel
theorem dX5_takeNumber_38 : decode cX5_takeNumber 38 = .ok (.iload_n 3, 1) := by decide +kernel
theorem dX5_takeNumber_39 : decode cX5_takeNumber 39 = .ok (.if_icmp .ne 10, 3) := by decide +kernel
theorem dX5_takeNumber_42 : decode cX5_takeNumber 42 = .ok (.aload_n 0, 1) := by decide +kernel
theorem dX5_takeNumber_43 : decode cX5_takeNumber 43 = .ok (.iconst 2, 1) := by decide +kernel
theorem dX5_takeNumber_44 : decode cX5_takeNumber 44 = .ok (.invokevirtual 85, 3) := by decide +kernel
theorem dX5_takeNumber_47 : decode cX5_takeNumber 47 = .ok (.iload_n 1, 1) := by decide +kernel
theorem dX5_takeNumber_48 : decode cX5_takeNumber 48 = .ok (.ireturn, 1) := by decide +kernel
theorem dX5_takeNumber_49 : decode cX5_takeNumber 49 = .ok (.aload_n 0, 1) := by decide +kernel
theorem dX5_takeNumber_50 : decode cX5_takeNumber 50 = .ok (.getfield 28, 3) := by decide +kernel
theorem dX5_takeNumber_53 : decode cX5_takeNumber 53 = .ok (.istore 4, 2) := by decide +kernel
theorem dX5_takeNumber_55 : decode cX5_takeNumber 55 = .ok (.aload_n 0, 1) := by decide +kernel
theorem dX5_takeNumber_56 : decode cX5_takeNumber 56 = .ok (.invokevirtual 47, 3) := by decide +kernel
theorem dX5_takeNumber_59 : decode cX5_takeNumber 59 = .ok (.iload 4, 2) := by decide +kernel
theorem dX5_takeNumber_61 : decode cX5_takeNumber 61 = .ok (.ireturn, 1) := by decide +kernel
theorem dX5_sortWord_0 : decode cX5_sortWord 0 = .ok (.iload_n 0, 1) := by decide +kernel
theorem dX5_sortWord_1 : decode cX5_sortWord 1 = .ok (.tableswitch 43 1 4 #[31, 34, 37, 40], 31) := by decide +kernel
theorem dX5_sortWord_32 : decode cX5_sortWord 32 = .ok (.ldc 129, 2) := by decide +kernel
theorem dX5_sortWord_34 : decode cX5_sortWord 34 = .ok (.areturn, 1) := by decide +kernel
theorem dX5_sortWord_35 : decode cX5_sortWord 35 = .ok (.ldc 131, 2) := by decide +kernel
theorem dX5_sortWord_37 : decode cX5_sortWord 37 = .ok (.areturn, 1) := by decide +kernel
theorem dX5_sortWord_38 : decode cX5_sortWord 38 = .ok (.ldc 133, 2) := by decide +kernel
theorem dX5_sortWord_40 : decode cX5_sortWord 40 = .ok (.areturn, 1) := by decide +kernel
theorem dX5_sortWord_41 : decode cX5_sortWord 41 = .ok (.ldc 135, 2) := by decide +kernel
theorem dX5_sortWord_43 : decode cX5_sortWord 43 = .ok (.areturn, 1) := by decide +kernel
theorem dX5_sortWord_44 : decode cX5_sortWord 44 = .ok (.ldc 137, 2) := by decide +kernel
theorem dX5_sortWord_46 : decode cX5_sortWord 46 = .ok (.areturn, 1) := by decide +kernel
theorem dX5_isWord_0 : decode cX5_isWord 0 = .ok (.aload_n 0, 1) := by decide +kernel
theorem dX5_isWord_1 : decode cX5_isWord 1 = .ok (.getfield 19, 3) := by decide +kernel
theorem dX5_isWord_4 : decode cX5_isWord 4 = .ok (.iconst 1, 1) := by decide +kernel
theorem dX5_isWord_5 : decode cX5_isWord 5 = .ok (.if_icmp .ne 19, 3) := by decide +kernel
theorem dX5_isWord_8 : decode cX5_isWord 8 = .ok (.aload_n 0, 1) := by decide +kernel
theorem dX5_isWord_9 : decode cX5_isWord 9 = .ok (.getfield 25, 3) := by decide +kernel
theorem dX5_isWord_12 : decode cX5_isWord 12 = .ok (.aload_n 0, 1) := by decide +kernel
theorem dX5_isWord_13 : decode cX5_isWord 13 = .ok (.getfield 22, 3) := by decide +kernel
theorem dX5_isWord_16 : decode cX5_isWord 16 = .ok (.isub, 1) := by decide +kernel
theorem dX5_isWord_17 : decode cX5_isWord 17 = .ok (.aload_n 1, 1) := by decide +kernel
theorem dX5_isWord_18 : decode cX5_isWord 18 = .ok (.invokevirtual 139, 3) := by decide +kernel
theorem dX5_isWord_21 : decode cX5_isWord 21 = .ok (.if_icmp .eq 5, 3) := by decide +kernel
theorem dX5_isWord_24 : decode cX5_isWord 24 = .ok (.iconst 0, 1) := by decide +kernel
theorem dX5_isWord_25 : decode cX5_isWord 25 = .ok (.ireturn, 1) := by decide +kernel
theorem dX5_isWord_26 : decode cX5_isWord 26 = .ok (.iconst 0, 1) := by decide +kernel
theorem dX5_isWord_27 : decode cX5_isWord 27 = .ok (.istore_n 2, 1) := by decide +kernel
theorem dX5_isWord_28 : decode cX5_isWord 28 = .ok (.iload_n 2, 1) := by decide +kernel
theorem dX5_isWord_29 : decode cX5_isWord 29 = .ok (.aload_n 1, 1) := by decide +kernel
theorem dX5_isWord_30 : decode cX5_isWord 30 = .ok (.invokevirtual 139, 3) := by decide +kernel
theorem dX5_isWord_33 : decode cX5_isWord 33 = .ok (.if_icmp .ge 30, 3) := by decide +kernel
theorem dX5_isWord_36 : decode cX5_isWord 36 = .ok (.aload_n 0, 1) := by decide +kernel
theorem dX5_isWord_37 : decode cX5_isWord 37 = .ok (.getfield 9, 3) := by decide +kernel
theorem dX5_isWord_40 : decode cX5_isWord 40 = .ok (.aload_n 0, 1) := by decide +kernel
theorem dX5_isWord_41 : decode cX5_isWord 41 = .ok (.getfield 22, 3) := by decide +kernel
theorem dX5_isWord_44 : decode cX5_isWord 44 = .ok (.iload_n 2, 1) := by decide +kernel
theorem dX5_isWord_45 : decode cX5_isWord 45 = .ok (.iadd, 1) := by decide +kernel
theorem dX5_isWord_46 : decode cX5_isWord 46 = .ok (.iaload, 1) := by decide +kernel
theorem dX5_isWord_47 : decode cX5_isWord 47 = .ok (.aload_n 1, 1) := by decide +kernel
theorem dX5_isWord_48 : decode cX5_isWord 48 = .ok (.iload_n 2, 1) := by decide +kernel
theorem dX5_isWord_49 : decode cX5_isWord 49 = .ok (.invokevirtual 144, 3) := by decide +kernel
theorem dX5_isWord_52 : decode cX5_isWord 52 = .ok (.if_icmp .eq 5, 3) := by decide +kernel
theorem dX5_isWord_55 : decode cX5_isWord 55 = .ok (.iconst 0, 1) := by decide +kernel
theorem dX5_isWord_56 : decode cX5_isWord 56 = .ok (.ireturn, 1) := by decide +kernel
theorem dX5_isWord_57 : decode cX5_isWord 57 = .ok (.iinc 2 1, 3) := by decide +kernel
theorem dX5_isWord_60 : decode cX5_isWord 60 = .ok (.goto (-32), 3) := by decide +kernel
theorem dX5_isWord_63 : decode cX5_isWord 63 = .ok (.iconst 1, 1) := by decide +kernel
theorem dX5_isWord_64 : decode cX5_isWord 64 = .ok (.ireturn, 1) := by decide +kernel
theorem dX5_nextToken_0 : decode cX5_nextToken 0 = .ok (.aload_n 0, 1) := by decide +kernel
theorem dX5_nextToken_1 : decode cX5_nextToken 1 = .ok (.getfield 25, 3) := by decide +kernel
theorem dX5_nextToken_4 : decode cX5_nextToken 4 = .ok (.aload_n 0, 1) := by decide +kernel
theorem dX5_nextToken_5 : decode cX5_nextToken 5 = .ok (.getfield 15, 3) := by decide +kernel
theorem dX5_nextToken_8 : decode cX5_nextToken 8 = .ok (.if_icmp .ge 44, 3) := by decide +kernel
theorem dX5_nextToken_11 : decode cX5_nextToken 11 = .ok (.aload_n 0, 1) := by decide +kernel
theorem dX5_nextToken_12 : decode cX5_nextToken 12 = .ok (.getfield 9, 3) := by decide +kernel
theorem dX5_nextToken_15 : decode cX5_nextToken 15 = .ok (.aload_n 0, 1) := by decide +kernel
theorem dX5_nextToken_16 : decode cX5_nextToken 16 = .ok (.getfield 25, 3) := by decide +kernel
theorem dX5_nextToken_19 : decode cX5_nextToken 19 = .ok (.iaload, 1) := by decide +kernel
theorem dX5_nextToken_20 : decode cX5_nextToken 20 = .ok (.bipush 32, 2) := by decide +kernel
theorem dX5_nextToken_22 : decode cX5_nextToken 22 = .ok (.if_icmp .eq 17, 3) := by decide +kernel
theorem dX5_nextToken_25 : decode cX5_nextToken 25 = .ok (.aload_n 0, 1) := by decide +kernel
theorem dX5_nextToken_26 : decode cX5_nextToken 26 = .ok (.getfield 9, 3) := by decide +kernel
theorem dX5_nextToken_29 : decode cX5_nextToken 29 = .ok (.aload_n 0, 1) := by decide +kernel
theorem dX5_nextToken_30 : decode cX5_nextToken 30 = .ok (.getfield 25, 3) := by decide +kernel
theorem dX5_nextToken_33 : decode cX5_nextToken 33 = .ok (.iaload, 1) := by decide +kernel
theorem dX5_nextToken_34 : decode cX5_nextToken 34 = .ok (.bipush 10, 2) := by decide +kernel
theorem dX5_nextToken_36 : decode cX5_nextToken 36 = .ok (.if_icmp .ne 16, 3) := by decide +kernel
theorem dX5_nextToken_39 : decode cX5_nextToken 39 = .ok (.aload_n 0, 1) := by decide +kernel
theorem dX5_nextToken_40 : decode cX5_nextToken 40 = .ok (.dup, 1) := by decide +kernel
theorem dX5_nextToken_41 : decode cX5_nextToken 41 = .ok (.getfield 25, 3) := by decide +kernel
theorem dX5_nextToken_44 : decode cX5_nextToken 44 = .ok (.iconst 1, 1) := by decide +kernel
theorem dX5_nextToken_45 : decode cX5_nextToken 45 = .ok (.iadd, 1) := by decide +kernel
theorem dX5_nextToken_46 : decode cX5_nextToken 46 = .ok (.putfield 25, 3) := by decide +kernel
theorem dX5_nextToken_49 : decode cX5_nextToken 49 = .ok (.goto (-49), 3) := by decide +kernel
theorem dX5_nextToken_52 : decode cX5_nextToken 52 = .ok (.aload_n 0, 1) := by decide +kernel
theorem dX5_nextToken_53 : decode cX5_nextToken 53 = .ok (.aload_n 0, 1) := by decide +kernel
theorem dX5_nextToken_54 : decode cX5_nextToken 54 = .ok (.getfield 25, 3) := by decide +kernel
theorem dX5_nextToken_57 : decode cX5_nextToken 57 = .ok (.putfield 22, 3) := by decide +kernel
theorem dX5_nextToken_60 : decode cX5_nextToken 60 = .ok (.aload_n 0, 1) := by decide +kernel
theorem dX5_nextToken_61 : decode cX5_nextToken 61 = .ok (.getfield 25, 3) := by decide +kernel
theorem dX5_nextToken_64 : decode cX5_nextToken 64 = .ok (.aload_n 0, 1) := by decide +kernel
theorem dX5_nextToken_65 : decode cX5_nextToken 65 = .ok (.getfield 15, 3) := by decide +kernel
theorem dX5_nextToken_68 : decode cX5_nextToken 68 = .ok (.if_icmp .lt 11, 3) := by decide +kernel
theorem dX5_nextToken_71 : decode cX5_nextToken 71 = .ok (.aload_n 0, 1) := by decide +kernel
theorem dX5_nextToken_72 : decode cX5_nextToken 72 = .ok (.iconst 0, 1) := by decide +kernel
theorem dX5_nextToken_73 : decode cX5_nextToken 73 = .ok (.putfield 19, 3) := by decide +kernel
theorem dX5_nextToken_76 : decode cX5_nextToken 76 = .ok (.goto 89, 3) := by decide +kernel
theorem dX5_nextToken_79 : decode cX5_nextToken 79 = .ok (.aload_n 0, 1) := by decide +kernel
theorem dX5_nextToken_80 : decode cX5_nextToken 80 = .ok (.bipush 97, 2) := by decide +kernel
theorem dX5_nextToken_82 : decode cX5_nextToken 82 = .ok (.bipush 122, 2) := by decide +kernel
theorem dX5_nextToken_84 : decode cX5_nextToken 84 = .ok (.invokevirtual 148, 3) := by decide +kernel
theorem dX5_nextToken_87 : decode cX5_nextToken 87 = .ok (.ifCond .eq 19, 3) := by decide +kernel
theorem dX5_nextToken_90 : decode cX5_nextToken 90 = .ok (.aload_n 0, 1) := by decide +kernel
theorem dX5_nextToken_91 : decode cX5_nextToken 91 = .ok (.bipush 97, 2) := by decide +kernel
theorem dX5_nextToken_93 : decode cX5_nextToken 93 = .ok (.bipush 122, 2) := by decide +kernel
theorem dX5_nextToken_95 : decode cX5_nextToken 95 = .ok (.invokevirtual 152, 3) := by decide +kernel
theorem dX5_nextToken_98 : decode cX5_nextToken 98 = .ok (.aload_n 0, 1) := by decide +kernel
theorem dX5_nextToken_99 : decode cX5_nextToken 99 = .ok (.iconst 1, 1) := by decide +kernel
theorem dX5_nextToken_100 : decode cX5_nextToken 100 = .ok (.putfield 19, 3) := by decide +kernel
theorem dX5_nextToken_103 : decode cX5_nextToken 103 = .ok (.goto 62, 3) := by decide +kernel
theorem dX5_nextToken_106 : decode cX5_nextToken 106 = .ok (.aload_n 0, 1) := by decide +kernel
theorem dX5_nextToken_107 : decode cX5_nextToken 107 = .ok (.bipush 48, 2) := by decide +kernel
theorem dX5_nextToken_109 : decode cX5_nextToken 109 = .ok (.bipush 57, 2) := by decide +kernel
theorem dX5_nextToken_111 : decode cX5_nextToken 111 = .ok (.invokevirtual 148, 3) := by decide +kernel
theorem dX5_nextToken_114 : decode cX5_nextToken 114 = .ok (.ifCond .eq 18, 3) := by decide +kernel
theorem dX5_nextToken_117 : decode cX5_nextToken 117 = .ok (.aload_n 0, 1) := by decide +kernel
theorem dX5_nextToken_118 : decode cX5_nextToken 118 = .ok (.bipush 48, 2) := by decide +kernel
theorem dX5_nextToken_120 : decode cX5_nextToken 120 = .ok (.bipush 57, 2) := by decide +kernel
theorem dX5_nextToken_122 : decode cX5_nextToken 122 = .ok (.invokevirtual 152, 3) := by decide +kernel
theorem dX5_nextToken_125 : decode cX5_nextToken 125 = .ok (.aload_n 0, 1) := by decide +kernel
theorem dX5_nextToken_126 : decode cX5_nextToken 126 = .ok (.invokevirtual 156, 3) := by decide +kernel
theorem dX5_nextToken_129 : decode cX5_nextToken 129 = .ok (.goto 36, 3) := by decide +kernel
theorem dX5_nextToken_132 : decode cX5_nextToken 132 = .ok (.aload_n 0, 1) := by decide +kernel
theorem dX5_nextToken_133 : decode cX5_nextToken 133 = .ok (.aload_n 0, 1) := by decide +kernel
theorem dX5_nextToken_134 : decode cX5_nextToken 134 = .ok (.getfield 9, 3) := by decide +kernel
theorem dX5_nextToken_137 : decode cX5_nextToken 137 = .ok (.aload_n 0, 1) := by decide +kernel
theorem dX5_nextToken_138 : decode cX5_nextToken 138 = .ok (.getfield 25, 3) := by decide +kernel
theorem dX5_nextToken_141 : decode cX5_nextToken 141 = .ok (.iaload, 1) := by decide +kernel
theorem dX5_nextToken_142 : decode cX5_nextToken 142 = .ok (.bipush 59, 2) := by decide +kernel
theorem dX5_nextToken_144 : decode cX5_nextToken 144 = .ok (.if_icmp .ne 7, 3) := by decide +kernel
theorem dX5_nextToken_147 : decode cX5_nextToken 147 = .ok (.iconst 3, 1) := by decide +kernel
theorem dX5_nextToken_148 : decode cX5_nextToken 148 = .ok (.goto 4, 3) := by decide +kernel
theorem dX5_nextToken_151 : decode cX5_nextToken 151 = .ok (.iconst 4, 1) := by decide +kernel
theorem dX5_nextToken_152 : decode cX5_nextToken 152 = .ok (.putfield 19, 3) := by decide +kernel
theorem dX5_nextToken_155 : decode cX5_nextToken 155 = .ok (.aload_n 0, 1) := by decide +kernel
theorem dX5_nextToken_156 : decode cX5_nextToken 156 = .ok (.dup, 1) := by decide +kernel
theorem dX5_nextToken_157 : decode cX5_nextToken 157 = .ok (.getfield 25, 3) := by decide +kernel
theorem dX5_nextToken_160 : decode cX5_nextToken 160 = .ok (.iconst 1, 1) := by decide +kernel
theorem dX5_nextToken_161 : decode cX5_nextToken 161 = .ok (.iadd, 1) := by decide +kernel
theorem dX5_nextToken_162 : decode cX5_nextToken 162 = .ok (.putfield 25, 3) := by decide +kernel
theorem dX5_nextToken_165 : decode cX5_nextToken 165 = .ok (.return_, 1) := by decide +kernel
theorem dX5_isBetween_0 : decode cX5_isBetween 0 = .ok (.aload_n 0, 1) := by decide +kernel
theorem dX5_isBetween_1 : decode cX5_isBetween 1 = .ok (.getfield 25, 3) := by decide +kernel
theorem dX5_isBetween_4 : decode cX5_isBetween 4 = .ok (.aload_n 0, 1) := by decide +kernel
theorem dX5_isBetween_5 : decode cX5_isBetween 5 = .ok (.getfield 15, 3) := by decide +kernel
theorem dX5_isBetween_8 : decode cX5_isBetween 8 = .ok (.if_icmp .ge 33, 3) := by decide +kernel
theorem dX5_isBetween_11 : decode cX5_isBetween 11 = .ok (.aload_n 0, 1) := by decide +kernel
theorem dX5_isBetween_12 : decode cX5_isBetween 12 = .ok (.getfield 9, 3) := by decide +kernel
theorem dX5_isBetween_15 : decode cX5_isBetween 15 = .ok (.aload_n 0, 1) := by decide +kernel
theorem dX5_isBetween_16 : decode cX5_isBetween 16 = .ok (.getfield 25, 3) := by decide +kernel
theorem dX5_isBetween_19 : decode cX5_isBetween 19 = .ok (.iaload, 1) := by decide +kernel
theorem dX5_isBetween_20 : decode cX5_isBetween 20 = .ok (.iload_n 1, 1) := by decide +kernel
theorem dX5_isBetween_21 : decode cX5_isBetween 21 = .ok (.if_icmp .lt 20, 3) := by decide +kernel
theorem dX5_isBetween_24 : decode cX5_isBetween 24 = .ok (.aload_n 0, 1) := by decide +kernel
theorem dX5_isBetween_25 : decode cX5_isBetween 25 = .ok (.getfield 9, 3) := by decide +kernel
theorem dX5_isBetween_28 : decode cX5_isBetween 28 = .ok (.aload_n 0, 1) := by decide +kernel
theorem dX5_isBetween_29 : decode cX5_isBetween 29 = .ok (.getfield 25, 3) := by decide +kernel
theorem dX5_isBetween_32 : decode cX5_isBetween 32 = .ok (.iaload, 1) := by decide +kernel
theorem dX5_isBetween_33 : decode cX5_isBetween 33 = .ok (.iload_n 2, 1) := by decide +kernel
theorem dX5_isBetween_34 : decode cX5_isBetween 34 = .ok (.if_icmp .gt 7, 3) := by decide +kernel
theorem dX5_isBetween_37 : decode cX5_isBetween 37 = .ok (.iconst 1, 1) := by decide +kernel
theorem dX5_isBetween_38 : decode cX5_isBetween 38 = .ok (.goto 4, 3) := by decide +kernel
theorem dX5_isBetween_41 : decode cX5_isBetween 41 = .ok (.iconst 0, 1) := by decide +kernel
theorem dX5_isBetween_42 : decode cX5_isBetween 42 = .ok (.ireturn, 1) := by decide +kernel
theorem dX5_passRun_0 : decode cX5_passRun 0 = .ok (.aload_n 0, 1) := by decide +kernel
theorem dX5_passRun_1 : decode cX5_passRun 1 = .ok (.iload_n 1, 1) := by decide +kernel
theorem dX5_passRun_2 : decode cX5_passRun 2 = .ok (.iload_n 2, 1) := by decide +kernel
theorem dX5_passRun_3 : decode cX5_passRun 3 = .ok (.invokevirtual 148, 3) := by decide +kernel
theorem dX5_passRun_6 : decode cX5_passRun 6 = .ok (.ifCond .eq 16, 3) := by decide +kernel
theorem dX5_passRun_9 : decode cX5_passRun 9 = .ok (.aload_n 0, 1) := by decide +kernel
theorem dX5_passRun_10 : decode cX5_passRun 10 = .ok (.dup, 1) := by decide +kernel
theorem dX5_passRun_11 : decode cX5_passRun 11 = .ok (.getfield 25, 3) := by decide +kernel
theorem dX5_passRun_14 : decode cX5_passRun 14 = .ok (.iconst 1, 1) := by decide +kernel
theorem dX5_passRun_15 : decode cX5_passRun 15 = .ok (.iadd, 1) := by decide +kernel
theorem dX5_passRun_16 : decode cX5_passRun 16 = .ok (.putfield 25, 3) := by decide +kernel
theorem dX5_passRun_19 : decode cX5_passRun 19 = .ok (.goto (-19), 3) := by decide +kernel
theorem dX5_passRun_22 : decode cX5_passRun 22 = .ok (.return_, 1) := by decide +kernel
theorem dX5_readNumber_0 : decode cX5_readNumber 0 = .ok (.aload_n 0, 1) := by decide +kernel
theorem dX5_readNumber_1 : decode cX5_readNumber 1 = .ok (.aload_n 0, 1) := by decide +kernel
theorem dX5_readNumber_2 : decode cX5_readNumber 2 = .ok (.getfield 25, 3) := by decide +kernel
theorem dX5_readNumber_5 : decode cX5_readNumber 5 = .ok (.aload_n 0, 1) := by decide +kernel
theorem dX5_readNumber_6 : decode cX5_readNumber 6 = .ok (.getfield 22, 3) := by decide +kernel
theorem dX5_readNumber_9 : decode cX5_readNumber 9 = .ok (.isub, 1) := by decide +kernel
theorem dX5_readNumber_10 : decode cX5_readNumber 10 = .ok (.iconst 3, 1) := by decide +kernel
theorem dX5_readNumber_11 : decode cX5_readNumber 11 = .ok (.if_icmp .gt 7, 3) := by decide +kernel
theorem dX5_readNumber_14 : decode cX5_readNumber 14 = .ok (.iconst 2, 1) := by decide +kernel
theorem dX5_readNumber_15 : decode cX5_readNumber 15 = .ok (.goto 4, 3) := by decide +kernel
theorem dX5_readNumber_18 : decode cX5_readNumber 18 = .ok (.iconst 4, 1) := by decide +kernel
theorem dX5_readNumber_19 : decode cX5_readNumber 19 = .ok (.putfield 19, 3) := by decide +kernel
theorem dX5_readNumber_22 : decode cX5_readNumber 22 = .ok (.aload_n 0, 1) := by decide +kernel
theorem dX5_readNumber_23 : decode cX5_readNumber 23 = .ok (.iconst 0, 1) := by decide +kernel
theorem dX5_readNumber_24 : decode cX5_readNumber 24 = .ok (.putfield 28, 3) := by decide +kernel
theorem dX5_readNumber_27 : decode cX5_readNumber 27 = .ok (.aload_n 0, 1) := by decide +kernel
theorem dX5_readNumber_28 : decode cX5_readNumber 28 = .ok (.getfield 22, 3) := by decide +kernel
theorem dX5_readNumber_31 : decode cX5_readNumber 31 = .ok (.istore_n 1, 1) := by decide +kernel
theorem dX5_readNumber_32 : decode cX5_readNumber 32 = .ok (.aload_n 0, 1) := by decide +kernel
theorem dX5_readNumber_33 : decode cX5_readNumber 33 = .ok (.getfield 19, 3) := by decide +kernel
theorem dX5_readNumber_36 : decode cX5_readNumber 36 = .ok (.iconst 2, 1) := by decide +kernel
theorem dX5_readNumber_37 : decode cX5_readNumber 37 = .ok (.if_icmp .ne 38, 3) := by decide +kernel
theorem dX5_readNumber_40 : decode cX5_readNumber 40 = .ok (.iload_n 1, 1) := by decide +kernel
theorem dX5_readNumber_41 : decode cX5_readNumber 41 = .ok (.aload_n 0, 1) := by decide +kernel
theorem dX5_readNumber_42 : decode cX5_readNumber 42 = .ok (.getfield 25, 3) := by decide +kernel
theorem dX5_readNumber_45 : decode cX5_readNumber 45 = .ok (.if_icmp .ge 30, 3) := by decide +kernel
theorem dX5_readNumber_48 : decode cX5_readNumber 48 = .ok (.aload_n 0, 1) := by decide +kernel
theorem dX5_readNumber_49 : decode cX5_readNumber 49 = .ok (.aload_n 0, 1) := by decide +kernel
theorem dX5_readNumber_50 : decode cX5_readNumber 50 = .ok (.getfield 28, 3) := by decide +kernel
theorem dX5_readNumber_53 : decode cX5_readNumber 53 = .ok (.bipush 10, 2) := by decide +kernel
theorem dX5_readNumber_55 : decode cX5_readNumber 55 = .ok (.imul, 1) := by decide +kernel
theorem dX5_readNumber_56 : decode cX5_readNumber 56 = .ok (.aload_n 0, 1) := by decide +kernel
theorem dX5_readNumber_57 : decode cX5_readNumber 57 = .ok (.getfield 9, 3) := by decide +kernel
theorem dX5_readNumber_60 : decode cX5_readNumber 60 = .ok (.iload_n 1, 1) := by decide +kernel
theorem dX5_readNumber_61 : decode cX5_readNumber 61 = .ok (.iaload, 1) := by decide +kernel
theorem dX5_readNumber_62 : decode cX5_readNumber 62 = .ok (.iadd, 1) := by decide +kernel
theorem dX5_readNumber_63 : decode cX5_readNumber 63 = .ok (.bipush 48, 2) := by decide +kernel
theorem dX5_readNumber_65 : decode cX5_readNumber 65 = .ok (.isub, 1) := by decide +kernel
theorem dX5_readNumber_66 : decode cX5_readNumber 66 = .ok (.putfield 28, 3) := by decide +kernel
theorem dX5_readNumber_69 : decode cX5_readNumber 69 = .ok (.iinc 1 1, 3) := by decide +kernel
theorem dX5_readNumber_72 : decode cX5_readNumber 72 = .ok (.goto (-40), 3) := by decide +kernel
theorem dX5_readNumber_75 : decode cX5_readNumber 75 = .ok (.return_, 1) := by decide +kernel
theorem dX6_init_0 : decode cX6_init 0 = .ok (.aload_n 0, 1) := by decide +kernel
theorem dX6_init_1 : decode cX6_init 1 = .ok (.invokespecial 1, 3) := by decide +kernel
theorem dX6_init_4 : decode cX6_init 4 = .ok (.aload_n 0, 1) := by decide +kernel
theorem dX6_init_5 : decode cX6_init 5 = .ok (.iconst 0, 1) := by decide +kernel
theorem dX6_init_6 : decode cX6_init 6 = .ok (.putfield 7, 3) := by decide +kernel
theorem dX6_init_9 : decode cX6_init 9 = .ok (.aload_n 0, 1) := by decide +kernel
theorem dX6_init_10 : decode cX6_init 10 = .ok (.iconst 0, 1) := by decide +kernel
theorem dX6_init_11 : decode cX6_init 11 = .ok (.putfield 13, 3) := by decide +kernel
theorem dX6_init_14 : decode cX6_init 14 = .ok (.aload_n 0, 1) := by decide +kernel
theorem dX6_init_15 : decode cX6_init 15 = .ok (.iconst 0, 1) := by decide +kernel
theorem dX6_init_16 : decode cX6_init 16 = .ok (.putfield 16, 3) := by decide +kernel
theorem dX6_init_19 : decode cX6_init 19 = .ok (.aload_n 0, 1) := by decide +kernel
theorem dX6_init_20 : decode cX6_init 20 = .ok (.iconst 0, 1) := by decide +kernel
theorem dX6_init_21 : decode cX6_init 21 = .ok (.putfield 19, 3) := by decide +kernel
theorem dX6_init_24 : decode cX6_init 24 = .ok (.return_, 1) := by decide +kernel
theorem dX6_becomes_0 : decode cX6_becomes 0 = .ok (.aload_n 0, 1) := by decide +kernel
theorem dX6_becomes_1 : decode cX6_becomes 1 = .ok (.aload_n 1, 1) := by decide +kernel
theorem dX6_becomes_2 : decode cX6_becomes 2 = .ok (.getfield 7, 3) := by decide +kernel
theorem dX6_becomes_5 : decode cX6_becomes 5 = .ok (.putfield 7, 3) := by decide +kernel
theorem dX6_becomes_8 : decode cX6_becomes 8 = .ok (.aload_n 0, 1) := by decide +kernel
theorem dX6_becomes_9 : decode cX6_becomes 9 = .ok (.aload_n 1, 1) := by decide +kernel
theorem dX6_becomes_10 : decode cX6_becomes 10 = .ok (.getfield 13, 3) := by decide +kernel
theorem dX6_becomes_13 : decode cX6_becomes 13 = .ok (.putfield 13, 3) := by decide +kernel
theorem dX6_becomes_16 : decode cX6_becomes 16 = .ok (.aload_n 0, 1) := by decide +kernel
theorem dX6_becomes_17 : decode cX6_becomes 17 = .ok (.aload_n 1, 1) := by decide +kernel
theorem dX6_becomes_18 : decode cX6_becomes 18 = .ok (.getfield 16, 3) := by decide +kernel
theorem dX6_becomes_21 : decode cX6_becomes 21 = .ok (.putfield 16, 3) := by decide +kernel
theorem dX6_becomes_24 : decode cX6_becomes 24 = .ok (.aload_n 0, 1) := by decide +kernel
theorem dX6_becomes_25 : decode cX6_becomes 25 = .ok (.aload_n 1, 1) := by decide +kernel
theorem dX6_becomes_26 : decode cX6_becomes 26 = .ok (.getfield 19, 3) := by decide +kernel
theorem dX6_becomes_29 : decode cX6_becomes 29 = .ok (.putfield 19, 3) := by decide +kernel
theorem dX6_becomes_32 : decode cX6_becomes 32 = .ok (.return_, 1) := by decide +kernel
theorem dX6_endsIn_0 : decode cX6_endsIn 0 = .ok (.aload_n 0, 1) := by decide +kernel
theorem dX6_endsIn_1 : decode cX6_endsIn 1 = .ok (.getfield 7, 3) := by decide +kernel
theorem dX6_endsIn_4 : decode cX6_endsIn 4 = .ok (.iload_n 1, 1) := by decide +kernel
theorem dX6_endsIn_5 : decode cX6_endsIn 5 = .ok (.if_icmp .eq 11, 3) := by decide +kernel
theorem dX6_endsIn_8 : decode cX6_endsIn 8 = .ok (.aload_n 0, 1) := by decide +kernel
theorem dX6_endsIn_9 : decode cX6_endsIn 9 = .ok (.getfield 13, 3) := by decide +kernel
theorem dX6_endsIn_12 : decode cX6_endsIn 12 = .ok (.iload_n 1, 1) := by decide +kernel
theorem dX6_endsIn_13 : decode cX6_endsIn 13 = .ok (.if_icmp .ne 7, 3) := by decide +kernel
theorem dX6_endsIn_16 : decode cX6_endsIn 16 = .ok (.iconst 1, 1) := by decide +kernel
theorem dX6_endsIn_17 : decode cX6_endsIn 17 = .ok (.goto 4, 3) := by decide +kernel
theorem dX6_endsIn_20 : decode cX6_endsIn 20 = .ok (.iconst 0, 1) := by decide +kernel
theorem dX6_endsIn_21 : decode cX6_endsIn 21 = .ok (.ireturn, 1) := by decide +kernel
theorem dX6_otherEnd_0 : decode cX6_otherEnd 0 = .ok (.iload_n 1, 1) := by decide +kernel
theorem dX6_otherEnd_1 : decode cX6_otherEnd 1 = .ok (.aload_n 0, 1) := by decide +kernel
theorem dX6_otherEnd_2 : decode cX6_otherEnd 2 = .ok (.getfield 7, 3) := by decide +kernel
theorem dX6_otherEnd_5 : decode cX6_otherEnd 5 = .ok (.if_icmp .ne 10, 3) := by decide +kernel
theorem dX6_otherEnd_8 : decode cX6_otherEnd 8 = .ok (.aload_n 0, 1) := by decide +kernel
theorem dX6_otherEnd_9 : decode cX6_otherEnd 9 = .ok (.getfield 13, 3) := by decide +kernel
theorem dX6_otherEnd_12 : decode cX6_otherEnd 12 = .ok (.goto 7, 3) := by decide +kernel
theorem dX6_otherEnd_15 : decode cX6_otherEnd 15 = .ok (.aload_n 0, 1) := by decide +kernel
theorem dX6_otherEnd_16 : decode cX6_otherEnd 16 = .ok (.getfield 7, 3) := by decide +kernel
theorem dX6_otherEnd_19 : decode cX6_otherEnd 19 = .ok (.ireturn, 1) := by decide +kernel
theorem dX7_init_0 : decode cX7_init 0 = .ok (.aload_n 0, 1) := by decide +kernel
theorem dX7_init_1 : decode cX7_init 1 = .ok (.invokespecial 1, 3) := by decide +kernel
theorem dX7_init_4 : decode cX7_init 4 = .ok (.aload_n 0, 1) := by decide +kernel
theorem dX7_init_5 : decode cX7_init 5 = .ok (.bipush 8, 2) := by decide +kernel
theorem dX7_init_7 : decode cX7_init 7 = .ok (.bipush 40, 2) := by decide +kernel
theorem dX7_init_9 : decode cX7_init 9 = .ok (.multianewarray 9 2, 4) := by decide +kernel
theorem dX7_init_13 : decode cX7_init 13 = .ok (.putfield 11, 3) := by decide +kernel
theorem dX7_init_16 : decode cX7_init 16 = .ok (.aload_n 0, 1) := by decide +kernel
theorem dX7_init_17 : decode cX7_init 17 = .ok (.bipush 8, 2) := by decide +kernel
theorem dX7_init_19 : decode cX7_init 19 = .ok (.newarray .int, 2) := by decide +kernel
theorem dX7_init_21 : decode cX7_init 21 = .ok (.putfield 14, 3) := by decide +kernel
theorem dX7_init_24 : decode cX7_init 24 = .ok (.aload_n 0, 1) := by decide +kernel
theorem dX7_init_25 : decode cX7_init 25 = .ok (.bipush 8, 2) := by decide +kernel
theorem dX7_init_27 : decode cX7_init 27 = .ok (.newarray .int, 2) := by decide +kernel
theorem dX7_init_29 : decode cX7_init 29 = .ok (.putfield 18, 3) := by decide +kernel
theorem dX7_init_32 : decode cX7_init 32 = .ok (.aload_n 0, 1) := by decide +kernel
theorem dX7_init_33 : decode cX7_init 33 = .ok (.iconst 0, 1) := by decide +kernel
theorem dX7_init_34 : decode cX7_init 34 = .ok (.putfield 21, 3) := by decide +kernel
theorem dX7_init_37 : decode cX7_init 37 = .ok (.aload_n 0, 1) := by decide +kernel
theorem dX7_init_38 : decode cX7_init 38 = .ok (.new 25, 3) := by decide +kernel
theorem dX7_init_41 : decode cX7_init 41 = .ok (.dup, 1) := by decide +kernel
theorem dX7_init_42 : decode cX7_init 42 = .ok (.invokespecial 27, 3) := by decide +kernel
theorem dX7_init_45 : decode cX7_init 45 = .ok (.putfield 28, 3) := by decide +kernel
theorem dX7_init_48 : decode cX7_init 48 = .ok (.aload_n 0, 1) := by decide +kernel
theorem dX7_init_49 : decode cX7_init 49 = .ok (.iconst 0, 1) := by decide +kernel
theorem dX7_init_50 : decode cX7_init 50 = .ok (.putfield 32, 3) := by decide +kernel
theorem dX7_init_53 : decode cX7_init 53 = .ok (.aload_n 0, 1) := by decide +kernel
theorem dX7_init_54 : decode cX7_init 54 = .ok (.iconst 0, 1) := by decide +kernel
theorem dX7_init_55 : decode cX7_init 55 = .ok (.putfield 35, 3) := by decide +kernel
theorem dX7_init_58 : decode cX7_init 58 = .ok (.aload_n 0, 1) := by decide +kernel
theorem dX7_init_59 : decode cX7_init 59 = .ok (.new 39, 3) := by decide +kernel
theorem dX7_init_62 : decode cX7_init 62 = .ok (.dup, 1) := by decide +kernel
theorem dX7_init_63 : decode cX7_init 63 = .ok (.invokespecial 41, 3) := by decide +kernel
theorem dX7_init_66 : decode cX7_init 66 = .ok (.putfield 42, 3) := by decide +kernel
theorem dX7_init_69 : decode cX7_init 69 = .ok (.aload_n 0, 1) := by decide +kernel
theorem dX7_init_70 : decode cX7_init 70 = .ok (.new 39, 3) := by decide +kernel
theorem dX7_init_73 : decode cX7_init 73 = .ok (.dup, 1) := by decide +kernel
theorem dX7_init_74 : decode cX7_init 74 = .ok (.invokespecial 41, 3) := by decide +kernel
theorem dX7_init_77 : decode cX7_init 77 = .ok (.putfield 46, 3) := by decide +kernel
theorem dX7_init_80 : decode cX7_init 80 = .ok (.aload_n 0, 1) := by decide +kernel
theorem dX7_init_81 : decode cX7_init 81 = .ok (.iconst 2, 1) := by decide +kernel
theorem dX7_init_82 : decode cX7_init 82 = .ok (.anewarray 39, 3) := by decide +kernel
theorem dX7_init_85 : decode cX7_init 85 = .ok (.putfield 49, 3) := by decide +kernel
theorem dX7_init_88 : decode cX7_init 88 = .ok (.aload_n 0, 1) := by decide +kernel
theorem dX7_init_89 : decode cX7_init 89 = .ok (.iconst 2, 1) := by decide +kernel
theorem dX7_init_90 : decode cX7_init 90 = .ok (.newarray .boolean, 2) := by decide +kernel
theorem dX7_init_92 : decode cX7_init 92 = .ok (.putfield 53, 3) := by decide +kernel
theorem dX7_init_95 : decode cX7_init 95 = .ok (.aload_n 0, 1) := by decide +kernel
theorem dX7_init_96 : decode cX7_init 96 = .ok (.new 57, 3) := by decide +kernel
theorem dX7_init_99 : decode cX7_init 99 = .ok (.dup, 1) := by decide +kernel
theorem dX7_init_100 : decode cX7_init 100 = .ok (.invokespecial 59, 3) := by decide +kernel
theorem dX7_init_103 : decode cX7_init 103 = .ok (.putfield 60, 3) := by decide +kernel
theorem dX7_init_106 : decode cX7_init 106 = .ok (.aload_n 0, 1) := by decide +kernel
theorem dX7_init_107 : decode cX7_init 107 = .ok (.new 64, 3) := by decide +kernel
theorem dX7_init_110 : decode cX7_init 110 = .ok (.dup, 1) := by decide +kernel
theorem dX7_init_111 : decode cX7_init 111 = .ok (.invokespecial 66, 3) := by decide +kernel
theorem dX7_init_114 : decode cX7_init 114 = .ok (.putfield 67, 3) := by decide +kernel
theorem dX7_init_117 : decode cX7_init 117 = .ok (.aload_n 0, 1) := by decide +kernel
theorem dX7_init_118 : decode cX7_init 118 = .ok (.new 64, 3) := by decide +kernel
theorem dX7_init_121 : decode cX7_init 121 = .ok (.dup, 1) := by decide +kernel
theorem dX7_init_122 : decode cX7_init 122 = .ok (.invokespecial 66, 3) := by decide +kernel
theorem dX7_init_125 : decode cX7_init 125 = .ok (.putfield 71, 3) := by decide +kernel
theorem dX7_init_128 : decode cX7_init 128 = .ok (.aload_n 0, 1) := by decide +kernel
theorem dX7_init_129 : decode cX7_init 129 = .ok (.new 74, 3) := by decide +kernel
theorem dX7_init_132 : decode cX7_init 132 = .ok (.dup, 1) := by decide +kernel
theorem dX7_init_133 : decode cX7_init 133 = .ok (.invokespecial 76, 3) := by decide +kernel
theorem dX7_init_136 : decode cX7_init 136 = .ok (.putfield 77, 3) := by decide +kernel
theorem dX7_init_139 : decode cX7_init 139 = .ok (.iconst 0, 1) := by decide +kernel
theorem dX7_init_140 : decode cX7_init 140 = .ok (.istore_n 1, 1) := by decide +kernel
theorem dX7_init_141 : decode cX7_init 141 = .ok (.iload_n 1, 1) := by decide +kernel
theorem dX7_init_142 : decode cX7_init 142 = .ok (.bipush 8, 2) := by decide +kernel
theorem dX7_init_144 : decode cX7_init 144 = .ok (.if_icmp .ge 16, 3) := by decide +kernel
theorem dX7_init_147 : decode cX7_init 147 = .ok (.aload_n 0, 1) := by decide +kernel
theorem dX7_init_148 : decode cX7_init 148 = .ok (.getfield 18, 3) := by decide +kernel
theorem dX7_init_151 : decode cX7_init 151 = .ok (.iload_n 1, 1) := by decide +kernel
theorem dX7_init_152 : decode cX7_init 152 = .ok (.iconst (-1), 1) := by decide +kernel
theorem dX7_init_153 : decode cX7_init 153 = .ok (.iastore, 1) := by decide +kernel
theorem dX7_init_154 : decode cX7_init 154 = .ok (.iinc 1 1, 3) := by decide +kernel
theorem dX7_init_157 : decode cX7_init 157 = .ok (.goto (-16), 3) := by decide +kernel
theorem dX7_init_160 : decode cX7_init 160 = .ok (.iconst 0, 1) := by decide +kernel
theorem dX7_init_161 : decode cX7_init 161 = .ok (.istore_n 1, 1) := by decide +kernel
theorem dX7_init_162 : decode cX7_init 162 = .ok (.iload_n 1, 1) := by decide +kernel
theorem dX7_init_163 : decode cX7_init 163 = .ok (.iconst 2, 1) := by decide +kernel
theorem dX7_init_164 : decode cX7_init 164 = .ok (.if_icmp .ge 22, 3) := by decide +kernel
theorem dX7_init_167 : decode cX7_init 167 = .ok (.aload_n 0, 1) := by decide +kernel
theorem dX7_init_168 : decode cX7_init 168 = .ok (.getfield 49, 3) := by decide +kernel
theorem dX7_init_171 : decode cX7_init 171 = .ok (.iload_n 1, 1) := by decide +kernel
theorem dX7_init_172 : decode cX7_init 172 = .ok (.new 39, 3) := by decide +kernel
theorem dX7_init_175 : decode cX7_init 175 = .ok (.dup, 1) := by decide +kernel
theorem dX7_init_176 : decode cX7_init 176 = .ok (.invokespecial 41, 3) := by decide +kernel
theorem dX7_init_179 : decode cX7_init 179 = .ok (.aastore, 1) := by decide +kernel
theorem dX7_init_180 : decode cX7_init 180 = .ok (.iinc 1 1, 3) := by decide +kernel
theorem dX7_init_183 : decode cX7_init 183 = .ok (.goto (-21), 3) := by decide +kernel
theorem dX7_init_186 : decode cX7_init 186 = .ok (.return_, 1) := by decide +kernel
theorem dX7_row_0 : decode cX7_row 0 = .ok (.iload_n 1, 1) := by decide +kernel
theorem dX7_row_1 : decode cX7_row 1 = .ok (.invokestatic 81, 3) := by decide +kernel
theorem dX7_row_4 : decode cX7_row 4 = .ok (.ifCond .ne 18, 3) := by decide +kernel
theorem dX7_row_7 : decode cX7_row 7 = .ok (.iload_n 2, 1) := by decide +kernel
theorem dX7_row_8 : decode cX7_row 8 = .ok (.iconst 0, 1) := by decide +kernel
theorem dX7_row_9 : decode cX7_row 9 = .ok (.iconst 2, 1) := by decide +kernel
theorem dX7_row_10 : decode cX7_row 10 = .ok (.invokestatic 85, 3) := by decide +kernel
theorem dX7_row_13 : decode cX7_row 13 = .ok (.ifCond .ne 9, 3) := by decide +kernel
theorem dX7_row_16 : decode cX7_row 16 = .ok (.iload_n 3, 1) := by decide +kernel
theorem dX7_row_17 : decode cX7_row 17 = .ok (.bipush 40, 2) := by decide +kernel
theorem dX7_row_19 : decode cX7_row 19 = .ok (.if_icmp .le 6, 3) := by decide +kernel
theorem dX7_row_22 : decode cX7_row 22 = .ok (.ldc 89, 2) := by decide +kernel
theorem dX7_row_24 : decode cX7_row 24 = .ok (.ireturn, 1) := by decide +kernel
theorem dX7_row_25 : decode cX7_row 25 = .ok (.iload_n 3, 1) := by decide +kernel
theorem dX7_row_26 : decode cX7_row 26 = .ok (.ifCond .ge 9, 3) := by decide +kernel
theorem dX7_row_29 : decode cX7_row 29 = .ok (.aload_n 0, 1) := by decide +kernel
theorem dX7_row_30 : decode cX7_row 30 = .ok (.iconst 4, 1) := by decide +kernel
theorem dX7_row_31 : decode cX7_row 31 = .ok (.invokevirtual 90, 3) := by decide +kernel
theorem dX7_row_34 : decode cX7_row 34 = .ok (.ireturn, 1) := by decide +kernel
theorem dX7_row_35 : decode cX7_row 35 = .ok (.iconst 0, 1) := by decide +kernel
theorem dX7_row_36 : decode cX7_row 36 = .ok (.istore 4, 2) := by decide +kernel
theorem dX7_row_38 : decode cX7_row 38 = .ok (.iload 4, 2) := by decide +kernel
theorem dX7_row_40 : decode cX7_row 40 = .ok (.bipush 40, 2) := by decide +kernel
theorem dX7_row_42 : decode cX7_row 42 = .ok (.if_icmp .ge 19, 3) := by decide +kernel
theorem dX7_row_45 : decode cX7_row 45 = .ok (.aload_n 0, 1) := by decide +kernel
theorem dX7_row_46 : decode cX7_row 46 = .ok (.getfield 11, 3) := by decide +kernel
theorem dX7_row_49 : decode cX7_row 49 = .ok (.iload_n 1, 1) := by decide +kernel
theorem dX7_row_50 : decode cX7_row 50 = .ok (.aaload, 1) := by decide +kernel
theorem dX7_row_51 : decode cX7_row 51 = .ok (.iload 4, 2) := by decide +kernel
theorem dX7_row_53 : decode cX7_row 53 = .ok (.iconst 0, 1) := by decide +kernel
theorem dX7_row_54 : decode cX7_row 54 = .ok (.iastore, 1) := by decide +kernel
theorem dX7_row_55 : decode cX7_row 55 = .ok (.iinc 4 1, 3) := by decide +kernel
theorem dX7_row_58 : decode cX7_row 58 = .ok (.goto (-20), 3) := by decide +kernel
theorem dX7_row_61 : decode cX7_row 61 = .ok (.aload_n 0, 1) := by decide +kernel
theorem dX7_row_62 : decode cX7_row 62 = .ok (.getfield 14, 3) := by decide +kernel
theorem dX7_row_65 : decode cX7_row 65 = .ok (.iload_n 1, 1) := by decide +kernel
theorem dX7_row_66 : decode cX7_row 66 = .ok (.iload_n 2, 1) := by decide +kernel
theorem dX7_row_67 : decode cX7_row 67 = .ok (.iastore, 1) := by decide +kernel
theorem dX7_row_68 : decode cX7_row 68 = .ok (.aload_n 0, 1) := by decide +kernel
theorem dX7_row_69 : decode cX7_row 69 = .ok (.getfield 18, 3) := by decide +kernel
theorem dX7_row_72 : decode cX7_row 72 = .ok (.iload_n 1, 1) := by decide +kernel
theorem dX7_row_73 : decode cX7_row 73 = .ok (.iload_n 3, 1) := by decide +kernel
theorem dX7_row_74 : decode cX7_row 74 = .ok (.iastore, 1) := by decide +kernel
theorem dX7_row_75 : decode cX7_row 75 = .ok (.aload_n 0, 1) := by decide +kernel
theorem dX7_row_76 : decode cX7_row 76 = .ok (.iload_n 3, 1) := by decide +kernel
theorem dX7_row_77 : decode cX7_row 77 = .ok (.invokevirtual 94, 3) := by decide +kernel
theorem dX7_row_80 : decode cX7_row 80 = .ok (.ireturn, 1) := by decide +kernel
theorem dX7_set_0 : decode cX7_set 0 = .ok (.iload_n 1, 1) := by decide +kernel
theorem dX7_set_1 : decode cX7_set 1 = .ok (.invokestatic 81, 3) := by decide +kernel
theorem dX7_set_4 : decode cX7_set 4 = .ok (.ifCond .eq 6, 3) := by decide +kernel
theorem dX7_set_7 : decode cX7_set 7 = .ok (.ldc 89, 2) := by decide +kernel
theorem dX7_set_9 : decode cX7_set 9 = .ok (.ireturn, 1) := by decide +kernel
theorem dX7_set_10 : decode cX7_set 10 = .ok (.aload_n 0, 1) := by decide +kernel
theorem dX7_set_11 : decode cX7_set 11 = .ok (.iload_n 1, 1) := by decide +kernel
theorem dX7_set_12 : decode cX7_set 12 = .ok (.invokevirtual 97, 3) := by decide +kernel
theorem dX7_set_15 : decode cX7_set 15 = .ok (.ifCond .eq 9, 3) := by decide +kernel
theorem dX7_set_18 : decode cX7_set 18 = .ok (.aload_n 0, 1) := by decide +kernel
theorem dX7_set_19 : decode cX7_set 19 = .ok (.iconst 1, 1) := by decide +kernel
theorem dX7_set_20 : decode cX7_set 20 = .ok (.invokevirtual 90, 3) := by decide +kernel
theorem dX7_set_23 : decode cX7_set 23 = .ok (.ireturn, 1) := by decide +kernel
theorem dX7_set_24 : decode cX7_set 24 = .ok (.aload_n 0, 1) := by decide +kernel
theorem dX7_set_25 : decode cX7_set 25 = .ok (.iload_n 1, 1) := by decide +kernel
theorem dX7_set_26 : decode cX7_set 26 = .ok (.iload_n 2, 1) := by decide +kernel
theorem dX7_set_27 : decode cX7_set 27 = .ok (.iconst 1, 1) := by decide +kernel
theorem dX7_set_28 : decode cX7_set 28 = .ok (.invokevirtual 100, 3) := by decide +kernel
theorem dX7_set_31 : decode cX7_set 31 = .ok (.ifCond .eq 9, 3) := by decide +kernel
theorem dX7_set_34 : decode cX7_set 34 = .ok (.aload_n 0, 1) := by decide +kernel
theorem dX7_set_35 : decode cX7_set 35 = .ok (.iconst 2, 1) := by decide +kernel
theorem dX7_set_36 : decode cX7_set 36 = .ok (.invokevirtual 90, 3) := by decide +kernel
theorem dX7_set_39 : decode cX7_set 39 = .ok (.ireturn, 1) := by decide +kernel
theorem dX7_set_40 : decode cX7_set 40 = .ok (.aload_n 0, 1) := by decide +kernel
theorem dX7_set_41 : decode cX7_set 41 = .ok (.getfield 11, 3) := by decide +kernel
theorem dX7_set_44 : decode cX7_set 44 = .ok (.iload_n 1, 1) := by decide +kernel
theorem dX7_set_45 : decode cX7_set 45 = .ok (.aaload, 1) := by decide +kernel
theorem dX7_set_46 : decode cX7_set 46 = .ok (.iload_n 2, 1) := by decide +kernel
theorem dX7_set_47 : decode cX7_set 47 = .ok (.aload_n 0, 1) := by decide +kernel
theorem dX7_set_48 : decode cX7_set 48 = .ok (.getfield 14, 3) := by decide +kernel
theorem dX7_set_51 : decode cX7_set 51 = .ok (.iload_n 1, 1) := by decide +kernel
theorem dX7_set_52 : decode cX7_set 52 = .ok (.iaload, 1) := by decide +kernel
theorem dX7_set_53 : decode cX7_set 53 = .ok (.iload_n 3, 1) := by decide +kernel
theorem dX7_set_54 : decode cX7_set 54 = .ok (.invokestatic 103, 3) := by decide +kernel
theorem dX7_set_57 : decode cX7_set 57 = .ok (.iastore, 1) := by decide +kernel
theorem dX7_set_58 : decode cX7_set 58 = .ok (.aload_n 0, 1) := by decide +kernel
theorem dX7_set_59 : decode cX7_set 59 = .ok (.aload_n 0, 1) := by decide +kernel
theorem dX7_set_60 : decode cX7_set 60 = .ok (.getfield 11, 3) := by decide +kernel
theorem dX7_set_63 : decode cX7_set 63 = .ok (.iload_n 1, 1) := by decide +kernel
theorem dX7_set_64 : decode cX7_set 64 = .ok (.aaload, 1) := by decide +kernel
theorem dX7_set_65 : decode cX7_set 65 = .ok (.iload_n 2, 1) := by decide +kernel
theorem dX7_set_66 : decode cX7_set 66 = .ok (.iaload, 1) := by decide +kernel
theorem dX7_set_67 : decode cX7_set 67 = .ok (.invokevirtual 94, 3) := by decide +kernel
theorem dX7_set_70 : decode cX7_set 70 = .ok (.ireturn, 1) := by decide +kernel
theorem dX7_copy_0 : decode cX7_copy 0 = .ok (.iload_n 1, 1) := by decide +kernel
theorem dX7_copy_1 : decode cX7_copy 1 = .ok (.invokestatic 81, 3) := by decide +kernel
theorem dX7_copy_4 : decode cX7_copy 4 = .ok (.ifCond .ne 10, 3) := by decide +kernel
theorem dX7_copy_7 : decode cX7_copy 7 = .ok (.iload_n 3, 1) := by decide +kernel
theorem dX7_copy_8 : decode cX7_copy 8 = .ok (.invokestatic 81, 3) := by decide +kernel
theorem dX7_copy_11 : decode cX7_copy 11 = .ok (.ifCond .eq 6, 3) := by decide +kernel
theorem dX7_copy_14 : decode cX7_copy 14 = .ok (.ldc 89, 2) := by decide +kernel
theorem dX7_copy_16 : decode cX7_copy 16 = .ok (.ireturn, 1) := by decide +kernel
theorem dX7_copy_17 : decode cX7_copy 17 = .ok (.aload_n 0, 1) := by decide +kernel
theorem dX7_copy_18 : decode cX7_copy 18 = .ok (.iload_n 1, 1) := by decide +kernel
theorem dX7_copy_19 : decode cX7_copy 19 = .ok (.invokevirtual 97, 3) := by decide +kernel
theorem dX7_copy_22 : decode cX7_copy 22 = .ok (.ifCond .ne 11, 3) := by decide +kernel
theorem dX7_copy_25 : decode cX7_copy 25 = .ok (.aload_n 0, 1) := by decide +kernel
theorem dX7_copy_26 : decode cX7_copy 26 = .ok (.iload_n 3, 1) := by decide +kernel
theorem dX7_copy_27 : decode cX7_copy 27 = .ok (.invokevirtual 97, 3) := by decide +kernel
theorem dX7_copy_30 : decode cX7_copy 30 = .ok (.ifCond .eq 9, 3) := by decide +kernel
theorem dX7_copy_33 : decode cX7_copy 33 = .ok (.aload_n 0, 1) := by decide +kernel
theorem dX7_copy_34 : decode cX7_copy 34 = .ok (.iconst 1, 1) := by decide +kernel
theorem dX7_copy_35 : decode cX7_copy 35 = .ok (.invokevirtual 90, 3) := by decide +kernel
theorem dX7_copy_38 : decode cX7_copy 38 = .ok (.ireturn, 1) := by decide +kernel
theorem dX7_copy_39 : decode cX7_copy 39 = .ok (.aload_n 0, 1) := by decide +kernel
theorem dX7_copy_40 : decode cX7_copy 40 = .ok (.getfield 14, 3) := by decide +kernel
theorem dX7_copy_43 : decode cX7_copy 43 = .ok (.iload_n 1, 1) := by decide +kernel
theorem dX7_copy_44 : decode cX7_copy 44 = .ok (.iaload, 1) := by decide +kernel
theorem dX7_copy_45 : decode cX7_copy 45 = .ok (.aload_n 0, 1) := by decide +kernel
theorem dX7_copy_46 : decode cX7_copy 46 = .ok (.getfield 14, 3) := by decide +kernel
theorem dX7_copy_49 : decode cX7_copy 49 = .ok (.iload_n 3, 1) := by decide +kernel
theorem dX7_copy_50 : decode cX7_copy 50 = .ok (.iaload, 1) := by decide +kernel
theorem dX7_copy_51 : decode cX7_copy 51 = .ok (.if_icmp .eq 9, 3) := by decide +kernel
theorem dX7_copy_54 : decode cX7_copy 54 = .ok (.aload_n 0, 1) := by decide +kernel
theorem dX7_copy_55 : decode cX7_copy 55 = .ok (.iconst 5, 1) := by decide +kernel
theorem dX7_copy_56 : decode cX7_copy 56 = .ok (.invokevirtual 90, 3) := by decide +kernel
theorem dX7_copy_59 : decode cX7_copy 59 = .ok (.ireturn, 1) := by decide +kernel
theorem dX7_copy_60 : decode cX7_copy 60 = .ok (.aload_n 0, 1) := by decide +kernel
theorem dX7_copy_61 : decode cX7_copy 61 = .ok (.iload_n 1, 1) := by decide +kernel
theorem dX7_copy_62 : decode cX7_copy 62 = .ok (.iload_n 2, 1) := by decide +kernel
theorem dX7_copy_63 : decode cX7_copy 63 = .ok (.iload 5, 2) := by decide +kernel
theorem dX7_copy_65 : decode cX7_copy 65 = .ok (.invokevirtual 100, 3) := by decide +kernel
theorem dX7_copy_68 : decode cX7_copy 68 = .ok (.ifCond .ne 15, 3) := by decide +kernel
theorem dX7_copy_71 : decode cX7_copy 71 = .ok (.aload_n 0, 1) := by decide +kernel
theorem dX7_copy_72 : decode cX7_copy 72 = .ok (.iload_n 3, 1) := by decide +kernel
theorem dX7_copy_73 : decode cX7_copy 73 = .ok (.iload 4, 2) := by decide +kernel
theorem dX7_copy_75 : decode cX7_copy 75 = .ok (.iload 5, 2) := by decide +kernel
theorem dX7_copy_77 : decode cX7_copy 77 = .ok (.invokevirtual 100, 3) := by decide +kernel
theorem dX7_copy_80 : decode cX7_copy 80 = .ok (.ifCond .eq 9, 3) := by decide +kernel
theorem dX7_copy_83 : decode cX7_copy 83 = .ok (.aload_n 0, 1) := by decide +kernel
theorem dX7_copy_84 : decode cX7_copy 84 = .ok (.iconst 2, 1) := by decide +kernel
theorem dX7_copy_85 : decode cX7_copy 85 = .ok (.invokevirtual 90, 3) := by decide +kernel
theorem dX7_copy_88 : decode cX7_copy 88 = .ok (.ireturn, 1) := by decide +kernel
theorem dX7_copy_89 : decode cX7_copy 89 = .ok (.aload_n 0, 1) := by decide +kernel
theorem dX7_copy_90 : decode cX7_copy 90 = .ok (.getfield 11, 3) := by decide +kernel
theorem dX7_copy_93 : decode cX7_copy 93 = .ok (.iload_n 1, 1) := by decide +kernel
theorem dX7_copy_94 : decode cX7_copy 94 = .ok (.aaload, 1) := by decide +kernel
theorem dX7_copy_95 : decode cX7_copy 95 = .ok (.iload_n 2, 1) := by decide +kernel
theorem dX7_copy_96 : decode cX7_copy 96 = .ok (.aload_n 0, 1) := by decide +kernel
theorem dX7_copy_97 : decode cX7_copy 97 = .ok (.getfield 11, 3) := by decide +kernel
theorem dX7_copy_100 : decode cX7_copy 100 = .ok (.iload_n 3, 1) := by decide +kernel
theorem dX7_copy_101 : decode cX7_copy 101 = .ok (.aaload, 1) := by decide +kernel
theorem dX7_copy_102 : decode cX7_copy 102 = .ok (.iload 4, 2) := by decide +kernel
theorem dX7_copy_104 : decode cX7_copy 104 = .ok (.iload 5, 2) := by decide +kernel
theorem dX7_copy_106 : decode cX7_copy 106 = .ok (.invokestatic 107, 3) := by decide +kernel
theorem dX7_copy_109 : decode cX7_copy 109 = .ok (.aload_n 0, 1) := by decide +kernel
theorem dX7_copy_110 : decode cX7_copy 110 = .ok (.iload 5, 2) := by decide +kernel
theorem dX7_copy_112 : decode cX7_copy 112 = .ok (.invokevirtual 94, 3) := by decide +kernel
theorem dX7_copy_115 : decode cX7_copy 115 = .ok (.ireturn, 1) := by decide +kernel
theorem dX7_drop_0 : decode cX7_drop 0 = .ok (.iload_n 1, 1) := by decide +kernel
theorem dX7_drop_1 : decode cX7_drop 1 = .ok (.invokestatic 81, 3) := by decide +kernel
theorem dX7_drop_4 : decode cX7_drop 4 = .ok (.ifCond .eq 6, 3) := by decide +kernel
theorem dX7_drop_7 : decode cX7_drop 7 = .ok (.ldc 89, 2) := by decide +kernel
theorem dX7_drop_9 : decode cX7_drop 9 = .ok (.ireturn, 1) := by decide +kernel
theorem dX7_drop_10 : decode cX7_drop 10 = .ok (.aload_n 0, 1) := by decide +kernel
theorem dX7_drop_11 : decode cX7_drop 11 = .ok (.iload_n 1, 1) := by decide +kernel
theorem dX7_drop_12 : decode cX7_drop 12 = .ok (.invokevirtual 97, 3) := by decide +kernel
theorem dX7_drop_15 : decode cX7_drop 15 = .ok (.ifCond .eq 9, 3) := by decide +kernel
theorem dX7_drop_18 : decode cX7_drop 18 = .ok (.aload_n 0, 1) := by decide +kernel
theorem dX7_drop_19 : decode cX7_drop 19 = .ok (.iconst 1, 1) := by decide +kernel
theorem dX7_drop_20 : decode cX7_drop 20 = .ok (.invokevirtual 90, 3) := by decide +kernel
theorem dX7_drop_23 : decode cX7_drop 23 = .ok (.ireturn, 1) := by decide +kernel
theorem dX7_drop_24 : decode cX7_drop 24 = .ok (.aload_n 0, 1) := by decide +kernel
theorem dX7_drop_25 : decode cX7_drop 25 = .ok (.getfield 18, 3) := by decide +kernel
theorem dX7_drop_28 : decode cX7_drop 28 = .ok (.iload_n 1, 1) := by decide +kernel
theorem dX7_drop_29 : decode cX7_drop 29 = .ok (.iaload, 1) := by decide +kernel
theorem dX7_drop_30 : decode cX7_drop 30 = .ok (.istore_n 2, 1) := by decide +kernel
theorem dX7_drop_31 : decode cX7_drop 31 = .ok (.aload_n 0, 1) := by decide +kernel
theorem dX7_drop_32 : decode cX7_drop 32 = .ok (.getfield 18, 3) := by decide +kernel
theorem dX7_drop_35 : decode cX7_drop 35 = .ok (.iload_n 1, 1) := by decide +kernel
theorem dX7_drop_36 : decode cX7_drop 36 = .ok (.iconst (-1), 1) := by decide +kernel
theorem dX7_drop_37 : decode cX7_drop 37 = .ok (.iastore, 1) := by decide +kernel
theorem dX7_drop_38 : decode cX7_drop 38 = .ok (.aload_n 0, 1) := by decide +kernel
theorem dX7_drop_39 : decode cX7_drop 39 = .ok (.iload_n 2, 1) := by decide +kernel
theorem dX7_drop_40 : decode cX7_drop 40 = .ok (.invokevirtual 94, 3) := by decide +kernel
theorem dX7_drop_43 : decode cX7_drop 43 = .ok (.ireturn, 1) := by decide +kernel
theorem dX7_feed_0 : decode cX7_feed 0 = .ok (.iload_n 3, 1) := by decide +kernel
theorem dX7_feed_1 : decode cX7_feed 1 = .ok (.iconst 1, 1) := by decide +kernel
theorem dX7_feed_2 : decode cX7_feed 2 = .ok (.bipush 8, 2) := by decide +kernel
theorem dX7_feed_4 : decode cX7_feed 4 = .ok (.invokestatic 85, 3) := by decide +kernel
theorem dX7_feed_7 : decode cX7_feed 7 = .ok (.ifCond .eq 6, 3) := by decide +kernel
theorem dX7_feed_10 : decode cX7_feed 10 = .ok (.ldc 89, 2) := by decide +kernel
theorem dX7_feed_12 : decode cX7_feed 12 = .ok (.ireturn, 1) := by decide +kernel
theorem dX7_feed_13 : decode cX7_feed 13 = .ok (.aload_n 0, 1) := by decide +kernel
theorem dX7_feed_14 : decode cX7_feed 14 = .ok (.getfield 28, 3) := by decide +kernel
theorem dX7_feed_17 : decode cX7_feed 17 = .ok (.getfield 113, 3) := by decide +kernel
theorem dX7_feed_20 : decode cX7_feed 20 = .ok (.iload_n 3, 1) := by decide +kernel
theorem dX7_feed_21 : decode cX7_feed 21 = .ok (.iadd, 1) := by decide +kernel
theorem dX7_feed_22 : decode cX7_feed 22 = .ok (.sipush 400, 3) := by decide +kernel
theorem dX7_feed_25 : decode cX7_feed 25 = .ok (.if_icmp .le 6, 3) := by decide +kernel
theorem dX7_feed_28 : decode cX7_feed 28 = .ok (.ldc 116, 2) := by decide +kernel
theorem dX7_feed_30 : decode cX7_feed 30 = .ok (.ireturn, 1) := by decide +kernel
theorem dX7_feed_31 : decode cX7_feed 31 = .ok (.aload_n 0, 1) := by decide +kernel
theorem dX7_feed_32 : decode cX7_feed 32 = .ok (.getfield 28, 3) := by decide +kernel
theorem dX7_feed_35 : decode cX7_feed 35 = .ok (.lload_n 1, 1) := by decide +kernel
theorem dX7_feed_36 : decode cX7_feed 36 = .ok (.iload_n 3, 1) := by decide +kernel
theorem dX7_feed_37 : decode cX7_feed 37 = .ok (.invokevirtual 117, 3) := by decide +kernel
theorem dX7_feed_40 : decode cX7_feed 40 = .ok (.aload_n 0, 1) := by decide +kernel
theorem dX7_feed_41 : decode cX7_feed 41 = .ok (.getfield 28, 3) := by decide +kernel
theorem dX7_feed_44 : decode cX7_feed 44 = .ok (.getfield 113, 3) := by decide +kernel
theorem dX7_feed_47 : decode cX7_feed 47 = .ok (.ireturn, 1) := by decide +kernel
theorem dX7_league_0 : decode cX7_league 0 = .ok (.aload_n 0, 1) := by decide +kernel
theorem dX7_league_1 : decode cX7_league 1 = .ok (.getfield 28, 3) := by decide +kernel
theorem dX7_league_4 : decode cX7_league 4 = .ok (.aload_n 0, 1) := by decide +kernel
theorem dX7_league_5 : decode cX7_league 5 = .ok (.getfield 46, 3) := by decide +kernel
theorem dX7_league_8 : decode cX7_league 8 = .ok (.invokevirtual 121, 3) := by decide +kernel
theorem dX7_league_11 : decode cX7_league 11 = .ok (.aload_n 0, 1) := by decide +kernel
theorem dX7_league_12 : decode cX7_league 12 = .ok (.getfield 28, 3) := by decide +kernel
theorem dX7_league_15 : decode cX7_league 15 = .ok (.iconst 0, 1) := by decide +kernel
theorem dX7_league_16 : decode cX7_league 16 = .ok (.putfield 113, 3) := by decide +kernel
theorem dX7_league_19 : decode cX7_league 19 = .ok (.aload_n 0, 1) := by decide +kernel
theorem dX7_league_20 : decode cX7_league 20 = .ok (.getfield 28, 3) := by decide +kernel
theorem dX7_league_23 : decode cX7_league 23 = .ok (.getfield 125, 3) := by decide +kernel
theorem dX7_league_26 : decode cX7_league 26 = .ok (.ifCond .eq 25, 3) := by decide +kernel
theorem dX7_league_29 : decode cX7_league 29 = .ok (.aload_n 0, 1) := by decide +kernel
theorem dX7_league_30 : decode cX7_league 30 = .ok (.aload_n 0, 1) := by decide +kernel
theorem dX7_league_31 : decode cX7_league 31 = .ok (.getfield 28, 3) := by decide +kernel
theorem dX7_league_34 : decode cX7_league 34 = .ok (.getfield 125, 3) := by decide +kernel
theorem dX7_league_37 : decode cX7_league 37 = .ok (.putfield 32, 3) := by decide +kernel
theorem dX7_league_40 : decode cX7_league 40 = .ok (.ldc 128, 2) := by decide +kernel
theorem dX7_league_42 : decode cX7_league 42 = .ok (.aload_n 0, 1) := by decide +kernel
theorem dX7_league_43 : decode cX7_league 43 = .ok (.getfield 28, 3) := by decide +kernel
theorem dX7_league_46 : decode cX7_league 46 = .ok (.getfield 129, 3) := by decide +kernel
theorem dX7_league_49 : decode cX7_league 49 = .ok (.isub, 1) := by decide +kernel
theorem dX7_league_50 : decode cX7_league 50 = .ok (.ireturn, 1) := by decide +kernel
theorem dX7_league_51 : decode cX7_league 51 = .ok (.aload_n 0, 1) := by decide +kernel
theorem dX7_league_52 : decode cX7_league 52 = .ok (.getfield 42, 3) := by decide +kernel
theorem dX7_league_55 : decode cX7_league 55 = .ok (.aload_n 0, 1) := by decide +kernel
theorem dX7_league_56 : decode cX7_league 56 = .ok (.getfield 46, 3) := by decide +kernel
theorem dX7_league_59 : decode cX7_league 59 = .ok (.invokevirtual 132, 3) := by decide +kernel
theorem dX7_league_62 : decode cX7_league 62 = .ok (.aload_n 0, 1) := by decide +kernel
theorem dX7_league_63 : decode cX7_league 63 = .ok (.iconst 1, 1) := by decide +kernel
theorem dX7_league_64 : decode cX7_league 64 = .ok (.putfield 35, 3) := by decide +kernel
theorem dX7_league_67 : decode cX7_league 67 = .ok (.aload_n 0, 1) := by decide +kernel
theorem dX7_league_68 : decode cX7_league 68 = .ok (.getfield 60, 3) := by decide +kernel
theorem dX7_league_71 : decode cX7_league 71 = .ok (.invokevirtual 135, 3) := by decide +kernel
theorem dX7_league_74 : decode cX7_league 74 = .ok (.aload_n 0, 1) := by decide +kernel
theorem dX7_league_75 : decode cX7_league 75 = .ok (.getfield 42, 3) := by decide +kernel
theorem dX7_league_78 : decode cX7_league 78 = .ok (.getfield 138, 3) := by decide +kernel
theorem dX7_league_81 : decode cX7_league 81 = .ok (.ireturn, 1) := by decide +kernel
theorem dX7_fault_0 : decode cX7_fault 0 = .ok (.aload_n 0, 1) := by decide +kernel
theorem dX7_fault_1 : decode cX7_fault 1 = .ok (.getfield 32, 3) := by decide +kernel
theorem dX7_fault_4 : decode cX7_fault 4 = .ok (.ireturn, 1) := by decide +kernel
theorem dX7_sail_0 : decode cX7_sail 0 = .ok (.aload_n 0, 1) := by decide +kernel
theorem dX7_sail_1 : decode cX7_sail 1 = .ok (.iload_n 1, 1) := by decide +kernel
theorem dX7_sail_2 : decode cX7_sail 2 = .ok (.invokevirtual 141, 3) := by decide +kernel
theorem dX7_sail_5 : decode cX7_sail 5 = .ok (.ifCond .ne 11, 3) := by decide +kernel
theorem dX7_sail_8 : decode cX7_sail 8 = .ok (.aload_n 0, 1) := by decide +kernel
theorem dX7_sail_9 : decode cX7_sail 9 = .ok (.iload_n 2, 1) := by decide +kernel
theorem dX7_sail_10 : decode cX7_sail 10 = .ok (.invokevirtual 144, 3) := by decide +kernel
theorem dX7_sail_13 : decode cX7_sail 13 = .ok (.ifCond .eq 6, 3) := by decide +kernel
theorem dX7_sail_16 : decode cX7_sail 16 = .ok (.ldc 89, 2) := by decide +kernel
theorem dX7_sail_18 : decode cX7_sail 18 = .ok (.ireturn, 1) := by decide +kernel
theorem dX7_sail_19 : decode cX7_sail 19 = .ok (.aload_n 0, 1) := by decide +kernel
theorem dX7_sail_20 : decode cX7_sail 20 = .ok (.iload_n 1, 1) := by decide +kernel
theorem dX7_sail_21 : decode cX7_sail 21 = .ok (.iload_n 2, 1) := by decide +kernel
theorem dX7_sail_22 : decode cX7_sail 22 = .ok (.invokevirtual 147, 3) := by decide +kernel
theorem dX7_sail_25 : decode cX7_sail 25 = .ok (.istore_n 3, 1) := by decide +kernel
theorem dX7_sail_26 : decode cX7_sail 26 = .ok (.iload_n 3, 1) := by decide +kernel
theorem dX7_sail_27 : decode cX7_sail 27 = .ok (.ifCond .eq 7, 3) := by decide +kernel
theorem dX7_sail_30 : decode cX7_sail 30 = .ok (.iload_n 3, 1) := by decide +kernel
theorem dX7_sail_31 : decode cX7_sail 31 = .ok (.goto 15, 3) := by decide +kernel
theorem dX7_sail_34 : decode cX7_sail 34 = .ok (.aload_n 0, 1) := by decide +kernel
theorem dX7_sail_35 : decode cX7_sail 35 = .ok (.getfield 42, 3) := by decide +kernel
theorem dX7_sail_38 : decode cX7_sail 38 = .ok (.getfield 150, 3) := by decide +kernel
theorem dX7_sail_41 : decode cX7_sail 41 = .ok (.iload_n 1, 1) := by decide +kernel
theorem dX7_sail_42 : decode cX7_sail 42 = .ok (.aaload, 1) := by decide +kernel
theorem dX7_sail_43 : decode cX7_sail 43 = .ok (.getfield 154, 3) := by decide +kernel
theorem dX7_sail_46 : decode cX7_sail 46 = .ok (.ireturn, 1) := by decide +kernel
theorem dX7_sails_0 : decode cX7_sails 0 = .ok (.iload_n 2, 1) := by decide +kernel
theorem dX7_sails_1 : decode cX7_sails 1 = .ok (.invokestatic 81, 3) := by decide +kernel
theorem dX7_sails_4 : decode cX7_sails 4 = .ok (.ifCond .ne 22, 3) := by decide +kernel
theorem dX7_sails_7 : decode cX7_sails 7 = .ok (.iload 4, 2) := by decide +kernel
theorem dX7_sails_9 : decode cX7_sails 9 = .ok (.iconst 1, 1) := by decide +kernel
theorem dX7_sails_10 : decode cX7_sails 10 = .ok (.bipush 24, 2) := by decide +kernel
theorem dX7_sails_12 : decode cX7_sails 12 = .ok (.invokestatic 85, 3) := by decide +kernel
theorem dX7_sails_15 : decode cX7_sails 15 = .ok (.ifCond .ne 11, 3) := by decide +kernel
theorem dX7_sails_18 : decode cX7_sails 18 = .ok (.aload_n 0, 1) := by decide +kernel
theorem dX7_sails_19 : decode cX7_sails 19 = .ok (.iload_n 1, 1) := by decide +kernel
theorem dX7_sails_20 : decode cX7_sails 20 = .ok (.invokevirtual 141, 3) := by decide +kernel
theorem dX7_sails_23 : decode cX7_sails 23 = .ok (.ifCond .eq 6, 3) := by decide +kernel
theorem dX7_sails_26 : decode cX7_sails 26 = .ok (.ldc 89, 2) := by decide +kernel
theorem dX7_sails_28 : decode cX7_sails 28 = .ok (.ireturn, 1) := by decide +kernel
theorem dX7_sails_29 : decode cX7_sails 29 = .ok (.aload_n 0, 1) := by decide +kernel
theorem dX7_sails_30 : decode cX7_sails 30 = .ok (.iload_n 2, 1) := by decide +kernel
theorem dX7_sails_31 : decode cX7_sails 31 = .ok (.invokevirtual 97, 3) := by decide +kernel
theorem dX7_sails_34 : decode cX7_sails 34 = .ok (.ifCond .eq 9, 3) := by decide +kernel
theorem dX7_sails_37 : decode cX7_sails 37 = .ok (.aload_n 0, 1) := by decide +kernel
theorem dX7_sails_38 : decode cX7_sails 38 = .ok (.iconst 1, 1) := by decide +kernel
theorem dX7_sails_39 : decode cX7_sails 39 = .ok (.invokevirtual 90, 3) := by decide +kernel
theorem dX7_sails_42 : decode cX7_sails 42 = .ok (.ireturn, 1) := by decide +kernel
theorem dX7_sails_43 : decode cX7_sails 43 = .ok (.aload_n 0, 1) := by decide +kernel
theorem dX7_sails_44 : decode cX7_sails 44 = .ok (.iload_n 2, 1) := by decide +kernel
theorem dX7_sails_45 : decode cX7_sails 45 = .ok (.iload_n 3, 1) := by decide +kernel
theorem dX7_sails_46 : decode cX7_sails 46 = .ok (.iload 4, 2) := by decide +kernel
theorem dX7_sails_48 : decode cX7_sails 48 = .ok (.invokevirtual 100, 3) := by decide +kernel
theorem dX7_sails_51 : decode cX7_sails 51 = .ok (.ifCond .eq 9, 3) := by decide +kernel
theorem dX7_sails_54 : decode cX7_sails 54 = .ok (.aload_n 0, 1) := by decide +kernel
theorem dX7_sails_55 : decode cX7_sails 55 = .ok (.iconst 2, 1) := by decide +kernel
theorem dX7_sails_56 : decode cX7_sails 56 = .ok (.invokevirtual 90, 3) := by decide +kernel
theorem dX7_sails_59 : decode cX7_sails 59 = .ok (.ireturn, 1) := by decide +kernel
theorem dX7_sails_60 : decode cX7_sails 60 = .ok (.iload_n 3, 1) := by decide +kernel
theorem dX7_sails_61 : decode cX7_sails 61 = .ok (.istore 5, 2) := by decide +kernel
theorem dX7_sails_63 : decode cX7_sails 63 = .ok (.iload 5, 2) := by decide +kernel
theorem dX7_sails_65 : decode cX7_sails 65 = .ok (.iload_n 3, 1) := by decide +kernel
theorem dX7_sails_66 : decode cX7_sails 66 = .ok (.iload 4, 2) := by decide +kernel
theorem dX7_sails_68 : decode cX7_sails 68 = .ok (.iadd, 1) := by decide +kernel
theorem dX7_sails_69 : decode cX7_sails 69 = .ok (.if_icmp .ge 28, 3) := by decide +kernel
theorem dX7_sails_72 : decode cX7_sails 72 = .ok (.aload_n 0, 1) := by decide +kernel
theorem dX7_sails_73 : decode cX7_sails 73 = .ok (.aload_n 0, 1) := by decide +kernel
theorem dX7_sails_74 : decode cX7_sails 74 = .ok (.getfield 11, 3) := by decide +kernel
theorem dX7_sails_77 : decode cX7_sails 77 = .ok (.iload_n 2, 1) := by decide +kernel
theorem dX7_sails_78 : decode cX7_sails 78 = .ok (.aaload, 1) := by decide +kernel
theorem dX7_sails_79 : decode cX7_sails 79 = .ok (.iload 5, 2) := by decide +kernel
theorem dX7_sails_81 : decode cX7_sails 81 = .ok (.iaload, 1) := by decide +kernel
theorem dX7_sails_82 : decode cX7_sails 82 = .ok (.invokevirtual 144, 3) := by decide +kernel
theorem dX7_sails_85 : decode cX7_sails 85 = .ok (.ifCond .eq 6, 3) := by decide +kernel
theorem dX7_sails_88 : decode cX7_sails 88 = .ok (.ldc 89, 2) := by decide +kernel
theorem dX7_sails_90 : decode cX7_sails 90 = .ok (.ireturn, 1) := by decide +kernel
theorem dX7_sails_91 : decode cX7_sails 91 = .ok (.iinc 5 1, 3) := by decide +kernel
theorem dX7_sails_94 : decode cX7_sails 94 = .ok (.goto (-31), 3) := by decide +kernel
theorem dX7_sails_97 : decode cX7_sails 97 = .ok (.iconst 0, 1) := by decide +kernel
theorem dX7_sails_98 : decode cX7_sails 98 = .ok (.istore 5, 2) := by decide +kernel
theorem dX7_sails_100 : decode cX7_sails 100 = .ok (.iload 5, 2) := by decide +kernel
theorem dX7_sails_102 : decode cX7_sails 102 = .ok (.iload 4, 2) := by decide +kernel
theorem dX7_sails_104 : decode cX7_sails 104 = .ok (.if_icmp .ge 28, 3) := by decide +kernel
theorem dX7_sails_107 : decode cX7_sails 107 = .ok (.aload_n 0, 1) := by decide +kernel
theorem dX7_sails_108 : decode cX7_sails 108 = .ok (.iload_n 1, 1) := by decide +kernel
theorem dX7_sails_109 : decode cX7_sails 109 = .ok (.aload_n 0, 1) := by decide +kernel
theorem dX7_sails_110 : decode cX7_sails 110 = .ok (.getfield 11, 3) := by decide +kernel
theorem dX7_sails_113 : decode cX7_sails 113 = .ok (.iload_n 2, 1) := by decide +kernel
theorem dX7_sails_114 : decode cX7_sails 114 = .ok (.aaload, 1) := by decide +kernel
theorem dX7_sails_115 : decode cX7_sails 115 = .ok (.iload_n 3, 1) := by decide +kernel
theorem dX7_sails_116 : decode cX7_sails 116 = .ok (.iload 5, 2) := by decide +kernel
theorem dX7_sails_118 : decode cX7_sails 118 = .ok (.iadd, 1) := by decide +kernel
theorem dX7_sails_119 : decode cX7_sails 119 = .ok (.iaload, 1) := by decide +kernel
theorem dX7_sails_120 : decode cX7_sails 120 = .ok (.invokevirtual 147, 3) := by decide +kernel
theorem dX7_sails_123 : decode cX7_sails 123 = .ok (.ifCond .ne 9, 3) := by decide +kernel
theorem dX7_sails_126 : decode cX7_sails 126 = .ok (.iinc 5 1, 3) := by decide +kernel
theorem dX7_sails_129 : decode cX7_sails 129 = .ok (.goto (-29), 3) := by decide +kernel
theorem dX7_sails_132 : decode cX7_sails 132 = .ok (.aload_n 0, 1) := by decide +kernel
theorem dX7_sails_133 : decode cX7_sails 133 = .ok (.iload 5, 2) := by decide +kernel
theorem dX7_sails_135 : decode cX7_sails 135 = .ok (.invokevirtual 94, 3) := by decide +kernel
theorem dX7_sails_138 : decode cX7_sails 138 = .ok (.ireturn, 1) := by decide +kernel
theorem dX7_stay_0 : decode cX7_stay 0 = .ok (.aload_n 0, 1) := by decide +kernel
theorem dX7_stay_1 : decode cX7_stay 1 = .ok (.iload_n 1, 1) := by decide +kernel
theorem dX7_stay_2 : decode cX7_stay 2 = .ok (.invokevirtual 141, 3) := by decide +kernel
theorem dX7_stay_5 : decode cX7_stay 5 = .ok (.ifCond .ne 13, 3) := by decide +kernel
theorem dX7_stay_8 : decode cX7_stay 8 = .ok (.iload_n 2, 1) := by decide +kernel
theorem dX7_stay_9 : decode cX7_stay 9 = .ok (.iconst 1, 1) := by decide +kernel
theorem dX7_stay_10 : decode cX7_stay 10 = .ok (.bipush 99, 2) := by decide +kernel
theorem dX7_stay_12 : decode cX7_stay 12 = .ok (.invokestatic 85, 3) := by decide +kernel
theorem dX7_stay_15 : decode cX7_stay 15 = .ok (.ifCond .eq 6, 3) := by decide +kernel
theorem dX7_stay_18 : decode cX7_stay 18 = .ok (.ldc 89, 2) := by decide +kernel
theorem dX7_stay_20 : decode cX7_stay 20 = .ok (.ireturn, 1) := by decide +kernel
theorem dX7_stay_21 : decode cX7_stay 21 = .ok (.aload_n 0, 1) := by decide +kernel
theorem dX7_stay_22 : decode cX7_stay 22 = .ok (.getfield 42, 3) := by decide +kernel
theorem dX7_stay_25 : decode cX7_stay 25 = .ok (.getfield 150, 3) := by decide +kernel
theorem dX7_stay_28 : decode cX7_stay 28 = .ok (.iload_n 1, 1) := by decide +kernel
theorem dX7_stay_29 : decode cX7_stay 29 = .ok (.aaload, 1) := by decide +kernel
theorem dX7_stay_30 : decode cX7_stay 30 = .ok (.astore_n 3, 1) := by decide +kernel
theorem dX7_stay_31 : decode cX7_stay 31 = .ok (.aload_n 3, 1) := by decide +kernel
theorem dX7_stay_32 : decode cX7_stay 32 = .ok (.getfield 159, 3) := by decide +kernel
theorem dX7_stay_35 : decode cX7_stay 35 = .ok (.iload_n 2, 1) := by decide +kernel
theorem dX7_stay_36 : decode cX7_stay 36 = .ok (.iadd, 1) := by decide +kernel
theorem dX7_stay_37 : decode cX7_stay 37 = .ok (.sipush 200, 3) := by decide +kernel
theorem dX7_stay_40 : decode cX7_stay 40 = .ok (.if_icmp .le 6, 3) := by decide +kernel
theorem dX7_stay_43 : decode cX7_stay 43 = .ok (.ldc 116, 2) := by decide +kernel
theorem dX7_stay_45 : decode cX7_stay 45 = .ok (.ireturn, 1) := by decide +kernel
theorem dX7_stay_46 : decode cX7_stay 46 = .ok (.aload_n 0, 1) := by decide +kernel
theorem dX7_stay_47 : decode cX7_stay 47 = .ok (.getfield 60, 3) := by decide +kernel
theorem dX7_stay_50 : decode cX7_stay 50 = .ok (.aload_n 0, 1) := by decide +kernel
theorem dX7_stay_51 : decode cX7_stay 51 = .ok (.getfield 42, 3) := by decide +kernel
theorem dX7_stay_54 : decode cX7_stay 54 = .ok (.invokevirtual 162, 3) := by decide +kernel
theorem dX7_stay_57 : decode cX7_stay 57 = .ok (.aload_n 3, 1) := by decide +kernel
theorem dX7_stay_58 : decode cX7_stay 58 = .ok (.iload_n 2, 1) := by decide +kernel
theorem dX7_stay_59 : decode cX7_stay 59 = .ok (.invokevirtual 165, 3) := by decide +kernel
theorem dX7_stay_62 : decode cX7_stay 62 = .ok (.aload_n 3, 1) := by decide +kernel
theorem dX7_stay_63 : decode cX7_stay 63 = .ok (.getfield 169, 3) := by decide +kernel
theorem dX7_stay_66 : decode cX7_stay 66 = .ok (.ireturn, 1) := by decide +kernel
theorem dX7_meet_0 : decode cX7_meet 0 = .ok (.aload_n 0, 1) := by decide +kernel
theorem dX7_meet_1 : decode cX7_meet 1 = .ok (.iload_n 1, 1) := by decide +kernel
theorem dX7_meet_2 : decode cX7_meet 2 = .ok (.invokevirtual 141, 3) := by decide +kernel
theorem dX7_meet_5 : decode cX7_meet 5 = .ok (.ifCond .ne 16, 3) := by decide +kernel
theorem dX7_meet_8 : decode cX7_meet 8 = .ok (.aload_n 0, 1) := by decide +kernel
theorem dX7_meet_9 : decode cX7_meet 9 = .ok (.iload_n 2, 1) := by decide +kernel
theorem dX7_meet_10 : decode cX7_meet 10 = .ok (.invokevirtual 141, 3) := by decide +kernel
theorem dX7_meet_13 : decode cX7_meet 13 = .ok (.ifCond .ne 8, 3) := by decide +kernel
theorem dX7_meet_16 : decode cX7_meet 16 = .ok (.iload_n 1, 1) := by decide +kernel
theorem dX7_meet_17 : decode cX7_meet 17 = .ok (.iload_n 2, 1) := by decide +kernel
theorem dX7_meet_18 : decode cX7_meet 18 = .ok (.if_icmp .ne 6, 3) := by decide +kernel
theorem dX7_meet_21 : decode cX7_meet 21 = .ok (.ldc 89, 2) := by decide +kernel
theorem dX7_meet_23 : decode cX7_meet 23 = .ok (.ireturn, 1) := by decide +kernel
theorem dX7_meet_24 : decode cX7_meet 24 = .ok (.aload_n 0, 1) := by decide +kernel
theorem dX7_meet_25 : decode cX7_meet 25 = .ok (.getfield 42, 3) := by decide +kernel
theorem dX7_meet_28 : decode cX7_meet 28 = .ok (.getfield 150, 3) := by decide +kernel
theorem dX7_meet_31 : decode cX7_meet 31 = .ok (.iload_n 1, 1) := by decide +kernel
theorem dX7_meet_32 : decode cX7_meet 32 = .ok (.aaload, 1) := by decide +kernel
theorem dX7_meet_33 : decode cX7_meet 33 = .ok (.astore_n 3, 1) := by decide +kernel
theorem dX7_meet_34 : decode cX7_meet 34 = .ok (.aload_n 0, 1) := by decide +kernel
theorem dX7_meet_35 : decode cX7_meet 35 = .ok (.getfield 42, 3) := by decide +kernel
theorem dX7_meet_38 : decode cX7_meet 38 = .ok (.getfield 150, 3) := by decide +kernel
theorem dX7_meet_41 : decode cX7_meet 41 = .ok (.iload_n 2, 1) := by decide +kernel
theorem dX7_meet_42 : decode cX7_meet 42 = .ok (.aaload, 1) := by decide +kernel
theorem dX7_meet_43 : decode cX7_meet 43 = .ok (.astore 4, 2) := by decide +kernel
theorem dX7_meet_45 : decode cX7_meet 45 = .ok (.aload_n 3, 1) := by decide +kernel
theorem dX7_meet_46 : decode cX7_meet 46 = .ok (.getfield 154, 3) := by decide +kernel
theorem dX7_meet_49 : decode cX7_meet 49 = .ok (.aload 4, 2) := by decide +kernel
theorem dX7_meet_51 : decode cX7_meet 51 = .ok (.getfield 154, 3) := by decide +kernel
theorem dX7_meet_54 : decode cX7_meet 54 = .ok (.if_icmp .eq 6, 3) := by decide +kernel
theorem dX7_meet_57 : decode cX7_meet 57 = .ok (.ldc 172, 2) := by decide +kernel
theorem dX7_meet_59 : decode cX7_meet 59 = .ok (.ireturn, 1) := by decide +kernel
theorem dX7_meet_60 : decode cX7_meet 60 = .ok (.aload_n 0, 1) := by decide +kernel
theorem dX7_meet_61 : decode cX7_meet 61 = .ok (.getfield 60, 3) := by decide +kernel
theorem dX7_meet_64 : decode cX7_meet 64 = .ok (.aload_n 0, 1) := by decide +kernel
theorem dX7_meet_65 : decode cX7_meet 65 = .ok (.getfield 42, 3) := by decide +kernel
theorem dX7_meet_68 : decode cX7_meet 68 = .ok (.invokevirtual 162, 3) := by decide +kernel
theorem dX7_meet_71 : decode cX7_meet 71 = .ok (.aload_n 3, 1) := by decide +kernel
theorem dX7_meet_72 : decode cX7_meet 72 = .ok (.getfield 159, 3) := by decide +kernel
theorem dX7_meet_75 : decode cX7_meet 75 = .ok (.aload 4, 2) := by decide +kernel
theorem dX7_meet_77 : decode cX7_meet 77 = .ok (.getfield 159, 3) := by decide +kernel
theorem dX7_meet_80 : decode cX7_meet 80 = .ok (.invokestatic 173, 3) := by decide +kernel
theorem dX7_meet_83 : decode cX7_meet 83 = .ok (.istore 5, 2) := by decide +kernel
theorem dX7_meet_85 : decode cX7_meet 85 = .ok (.aload_n 3, 1) := by decide +kernel
theorem dX7_meet_86 : decode cX7_meet 86 = .ok (.iload 5, 2) := by decide +kernel
theorem dX7_meet_88 : decode cX7_meet 88 = .ok (.aload_n 3, 1) := by decide +kernel
theorem dX7_meet_89 : decode cX7_meet 89 = .ok (.getfield 159, 3) := by decide +kernel
theorem dX7_meet_92 : decode cX7_meet 92 = .ok (.isub, 1) := by decide +kernel
theorem dX7_meet_93 : decode cX7_meet 93 = .ok (.invokevirtual 165, 3) := by decide +kernel
theorem dX7_meet_96 : decode cX7_meet 96 = .ok (.aload 4, 2) := by decide +kernel
theorem dX7_meet_98 : decode cX7_meet 98 = .ok (.iload 5, 2) := by decide +kernel
theorem dX7_meet_100 : decode cX7_meet 100 = .ok (.aload 4, 2) := by decide +kernel
theorem dX7_meet_102 : decode cX7_meet 102 = .ok (.getfield 159, 3) := by decide +kernel
theorem dX7_meet_105 : decode cX7_meet 105 = .ok (.isub, 1) := by decide +kernel
theorem dX7_meet_106 : decode cX7_meet 106 = .ok (.invokevirtual 165, 3) := by decide +kernel
theorem dX7_meet_109 : decode cX7_meet 109 = .ok (.aload_n 3, 1) := by decide +kernel
theorem dX7_meet_110 : decode cX7_meet 110 = .ok (.getfield 169, 3) := by decide +kernel
theorem dX7_meet_113 : decode cX7_meet 113 = .ok (.aload 4, 2) := by decide +kernel
theorem dX7_meet_115 : decode cX7_meet 115 = .ok (.getfield 169, 3) := by decide +kernel
theorem dX7_meet_118 : decode cX7_meet 118 = .ok (.isub, 1) := by decide +kernel
theorem dX7_meet_119 : decode cX7_meet 119 = .ok (.ireturn, 1) := by decide +kernel
theorem dX7_borrow_0 : decode cX7_borrow 0 = .ok (.aload_n 0, 1) := by decide +kernel
theorem dX7_borrow_1 : decode cX7_borrow 1 = .ok (.iload_n 1, 1) := by decide +kernel
theorem dX7_borrow_2 : decode cX7_borrow 2 = .ok (.invokevirtual 141, 3) := by decide +kernel
theorem dX7_borrow_5 : decode cX7_borrow 5 = .ok (.ifCond .ne 14, 3) := by decide +kernel
theorem dX7_borrow_8 : decode cX7_borrow 8 = .ok (.iload_n 2, 1) := by decide +kernel
theorem dX7_borrow_9 : decode cX7_borrow 9 = .ok (.iconst 1, 1) := by decide +kernel
theorem dX7_borrow_10 : decode cX7_borrow 10 = .ok (.sipush 9999, 3) := by decide +kernel
theorem dX7_borrow_13 : decode cX7_borrow 13 = .ok (.invokestatic 85, 3) := by decide +kernel
theorem dX7_borrow_16 : decode cX7_borrow 16 = .ok (.ifCond .eq 6, 3) := by decide +kernel
theorem dX7_borrow_19 : decode cX7_borrow 19 = .ok (.ldc 89, 2) := by decide +kernel
theorem dX7_borrow_21 : decode cX7_borrow 21 = .ok (.ireturn, 1) := by decide +kernel
theorem dX7_borrow_22 : decode cX7_borrow 22 = .ok (.aload_n 0, 1) := by decide +kernel
theorem dX7_borrow_23 : decode cX7_borrow 23 = .ok (.getfield 42, 3) := by decide +kernel
theorem dX7_borrow_26 : decode cX7_borrow 26 = .ok (.getfield 150, 3) := by decide +kernel
theorem dX7_borrow_29 : decode cX7_borrow 29 = .ok (.iload_n 1, 1) := by decide +kernel
theorem dX7_borrow_30 : decode cX7_borrow 30 = .ok (.aaload, 1) := by decide +kernel
theorem dX7_borrow_31 : decode cX7_borrow 31 = .ok (.astore_n 3, 1) := by decide +kernel
theorem dX7_borrow_32 : decode cX7_borrow 32 = .ok (.aload_n 3, 1) := by decide +kernel
theorem dX7_borrow_33 : decode cX7_borrow 33 = .ok (.aload_n 0, 1) := by decide +kernel
theorem dX7_borrow_34 : decode cX7_borrow 34 = .ok (.getfield 42, 3) := by decide +kernel
theorem dX7_borrow_37 : decode cX7_borrow 37 = .ok (.getfield 178, 3) := by decide +kernel
theorem dX7_borrow_40 : decode cX7_borrow 40 = .ok (.invokevirtual 181, 3) := by decide +kernel
theorem dX7_borrow_43 : decode cX7_borrow 43 = .ok (.istore 4, 2) := by decide +kernel
theorem dX7_borrow_45 : decode cX7_borrow 45 = .ok (.aload_n 0, 1) := by decide +kernel
theorem dX7_borrow_46 : decode cX7_borrow 46 = .ok (.getfield 60, 3) := by decide +kernel
theorem dX7_borrow_49 : decode cX7_borrow 49 = .ok (.aload_n 0, 1) := by decide +kernel
theorem dX7_borrow_50 : decode cX7_borrow 50 = .ok (.getfield 42, 3) := by decide +kernel
theorem dX7_borrow_53 : decode cX7_borrow 53 = .ok (.invokevirtual 162, 3) := by decide +kernel
theorem dX7_borrow_56 : decode cX7_borrow 56 = .ok (.aload_n 3, 1) := by decide +kernel
theorem dX7_borrow_57 : decode cX7_borrow 57 = .ok (.iload_n 2, 1) := by decide +kernel
theorem dX7_borrow_58 : decode cX7_borrow 58 = .ok (.invokevirtual 184, 3) := by decide +kernel
theorem dX7_borrow_61 : decode cX7_borrow 61 = .ok (.iload 4, 2) := by decide +kernel
theorem dX7_borrow_63 : decode cX7_borrow 63 = .ok (.ireturn, 1) := by decide +kernel
theorem dX7_undo_0 : decode cX7_undo 0 = .ok (.aload_n 0, 1) := by decide +kernel
theorem dX7_undo_1 : decode cX7_undo 1 = .ok (.getfield 60, 3) := by decide +kernel
theorem dX7_undo_4 : decode cX7_undo 4 = .ok (.getfield 187, 3) := by decide +kernel
theorem dX7_undo_7 : decode cX7_undo 7 = .ok (.ifCond .ne 6, 3) := by decide +kernel
theorem dX7_undo_10 : decode cX7_undo 10 = .ok (.ldc 172, 2) := by decide +kernel
theorem dX7_undo_12 : decode cX7_undo 12 = .ok (.ireturn, 1) := by decide +kernel
theorem dX7_undo_13 : decode cX7_undo 13 = .ok (.aload_n 0, 1) := by decide +kernel
theorem dX7_undo_14 : decode cX7_undo 14 = .ok (.getfield 60, 3) := by decide +kernel
theorem dX7_undo_17 : decode cX7_undo 17 = .ok (.aload_n 0, 1) := by decide +kernel
theorem dX7_undo_18 : decode cX7_undo 18 = .ok (.getfield 42, 3) := by decide +kernel
theorem dX7_undo_21 : decode cX7_undo 21 = .ok (.invokevirtual 188, 3) := by decide +kernel
theorem dX7_undo_24 : decode cX7_undo 24 = .ok (.aload_n 0, 1) := by decide +kernel
theorem dX7_undo_25 : decode cX7_undo 25 = .ok (.getfield 60, 3) := by decide +kernel
theorem dX7_undo_28 : decode cX7_undo 28 = .ok (.getfield 187, 3) := by decide +kernel
theorem dX7_undo_31 : decode cX7_undo 31 = .ok (.ireturn, 1) := by decide +kernel
theorem dX7_person_0 : decode cX7_person 0 = .ok (.aload_n 0, 1) := by decide +kernel
theorem dX7_person_1 : decode cX7_person 1 = .ok (.iload_n 1, 1) := by decide +kernel
theorem dX7_person_2 : decode cX7_person 2 = .ok (.invokevirtual 141, 3) := by decide +kernel
theorem dX7_person_5 : decode cX7_person 5 = .ok (.ifCond .eq 6, 3) := by decide +kernel
theorem dX7_person_8 : decode cX7_person 8 = .ok (.ldc 89, 2) := by decide +kernel
theorem dX7_person_10 : decode cX7_person 10 = .ok (.ireturn, 1) := by decide +kernel
theorem dX7_person_11 : decode cX7_person 11 = .ok (.aload_n 0, 1) := by decide +kernel
theorem dX7_person_12 : decode cX7_person 12 = .ok (.getfield 42, 3) := by decide +kernel
theorem dX7_person_15 : decode cX7_person 15 = .ok (.getfield 150, 3) := by decide +kernel
theorem dX7_person_18 : decode cX7_person 18 = .ok (.iload_n 1, 1) := by decide +kernel
theorem dX7_person_19 : decode cX7_person 19 = .ok (.aaload, 1) := by decide +kernel
theorem dX7_person_20 : decode cX7_person 20 = .ok (.astore_n 3, 1) := by decide +kernel
theorem dX7_person_21 : decode cX7_person 21 = .ok (.iload_n 2, 1) := by decide +kernel
theorem dX7_person_22 : decode cX7_person 22 = .ok (.tableswitch 82 0 5 #[38, 43, 48, 53, 58, 70], 38) := by decide +kernel
theorem dX7_person_60 : decode cX7_person 60 = .ok (.aload_n 3, 1) := by decide +kernel
theorem dX7_person_61 : decode cX7_person 61 = .ok (.getfield 154, 3) := by decide +kernel
theorem dX7_person_64 : decode cX7_person 64 = .ok (.ireturn, 1) := by decide +kernel
theorem dX7_person_65 : decode cX7_person 65 = .ok (.aload_n 3, 1) := by decide +kernel
theorem dX7_person_66 : decode cX7_person 66 = .ok (.getfield 159, 3) := by decide +kernel
theorem dX7_person_69 : decode cX7_person 69 = .ok (.ireturn, 1) := by decide +kernel
theorem dX7_person_70 : decode cX7_person 70 = .ok (.aload_n 3, 1) := by decide +kernel
theorem dX7_person_71 : decode cX7_person 71 = .ok (.getfield 169, 3) := by decide +kernel
theorem dX7_person_74 : decode cX7_person 74 = .ok (.ireturn, 1) := by decide +kernel
theorem dX7_person_75 : decode cX7_person 75 = .ok (.aload_n 3, 1) := by decide +kernel
theorem dX7_person_76 : decode cX7_person 76 = .ok (.invokevirtual 191, 3) := by decide +kernel
theorem dX7_person_79 : decode cX7_person 79 = .ok (.ireturn, 1) := by decide +kernel
theorem dX7_person_80 : decode cX7_person 80 = .ok (.aload_n 3, 1) := by decide +kernel
theorem dX7_person_81 : decode cX7_person 81 = .ok (.aload_n 0, 1) := by decide +kernel
theorem dX7_person_82 : decode cX7_person 82 = .ok (.getfield 42, 3) := by decide +kernel
theorem dX7_person_85 : decode cX7_person 85 = .ok (.getfield 178, 3) := by decide +kernel
theorem dX7_person_88 : decode cX7_person 88 = .ok (.invokevirtual 181, 3) := by decide +kernel
theorem dX7_person_91 : decode cX7_person 91 = .ok (.ireturn, 1) := by decide +kernel
theorem dX7_person_92 : decode cX7_person 92 = .ok (.aload_n 3, 1) := by decide +kernel
theorem dX7_person_93 : decode cX7_person 93 = .ok (.aload_n 0, 1) := by decide +kernel
theorem dX7_person_94 : decode cX7_person 94 = .ok (.getfield 42, 3) := by decide +kernel
theorem dX7_person_97 : decode cX7_person 97 = .ok (.getfield 178, 3) := by decide +kernel
theorem dX7_person_100 : decode cX7_person 100 = .ok (.invokevirtual 195, 3) := by decide +kernel
theorem dX7_person_103 : decode cX7_person 103 = .ok (.ireturn, 1) := by decide +kernel
theorem dX7_person_104 : decode cX7_person 104 = .ok (.ldc 89, 2) := by decide +kernel
theorem dX7_person_106 : decode cX7_person 106 = .ok (.ireturn, 1) := by decide +kernel
theorem dX7_gains_0 : decode cX7_gains 0 = .ok (.aload_n 0, 1) := by decide +kernel
theorem dX7_gains_1 : decode cX7_gains 1 = .ok (.iload_n 1, 1) := by decide +kernel
theorem dX7_gains_2 : decode cX7_gains 2 = .ok (.invokevirtual 141, 3) := by decide +kernel
theorem dX7_gains_5 : decode cX7_gains 5 = .ok (.ifCond .ne 11, 3) := by decide +kernel
theorem dX7_gains_8 : decode cX7_gains 8 = .ok (.aload_n 0, 1) := by decide +kernel
theorem dX7_gains_9 : decode cX7_gains 9 = .ok (.iload_n 2, 1) := by decide +kernel
theorem dX7_gains_10 : decode cX7_gains 10 = .ok (.invokevirtual 198, 3) := by decide +kernel
theorem dX7_gains_13 : decode cX7_gains 13 = .ok (.ifCond .eq 6, 3) := by decide +kernel
theorem dX7_gains_16 : decode cX7_gains 16 = .ok (.ldc 89, 2) := by decide +kernel
theorem dX7_gains_18 : decode cX7_gains 18 = .ok (.ireturn, 1) := by decide +kernel
theorem dX7_gains_19 : decode cX7_gains 19 = .ok (.iload_n 3, 1) := by decide +kernel
theorem dX7_gains_20 : decode cX7_gains 20 = .ok (.iconst 0, 1) := by decide +kernel
theorem dX7_gains_21 : decode cX7_gains 21 = .ok (.bipush 40, 2) := by decide +kernel
theorem dX7_gains_23 : decode cX7_gains 23 = .ok (.invokestatic 85, 3) := by decide +kernel
theorem dX7_gains_26 : decode cX7_gains 26 = .ok (.ifCond .ne 13, 3) := by decide +kernel
theorem dX7_gains_29 : decode cX7_gains 29 = .ok (.iload 4, 2) := by decide +kernel
theorem dX7_gains_31 : decode cX7_gains 31 = .ok (.iconst 0, 1) := by decide +kernel
theorem dX7_gains_32 : decode cX7_gains 32 = .ok (.iconst 2, 1) := by decide +kernel
theorem dX7_gains_33 : decode cX7_gains 33 = .ok (.invokestatic 85, 3) := by decide +kernel
theorem dX7_gains_36 : decode cX7_gains 36 = .ok (.ifCond .eq 6, 3) := by decide +kernel
theorem dX7_gains_39 : decode cX7_gains 39 = .ok (.ldc 89, 2) := by decide +kernel
theorem dX7_gains_41 : decode cX7_gains 41 = .ok (.ireturn, 1) := by decide +kernel
theorem dX7_gains_42 : decode cX7_gains 42 = .ok (.aload_n 0, 1) := by decide +kernel
theorem dX7_gains_43 : decode cX7_gains 43 = .ok (.getfield 67, 3) := by decide +kernel
theorem dX7_gains_46 : decode cX7_gains 46 = .ok (.aload_n 0, 1) := by decide +kernel
theorem dX7_gains_47 : decode cX7_gains 47 = .ok (.getfield 42, 3) := by decide +kernel
theorem dX7_gains_50 : decode cX7_gains 50 = .ok (.aload_n 0, 1) := by decide +kernel
theorem dX7_gains_51 : decode cX7_gains 51 = .ok (.getfield 42, 3) := by decide +kernel
theorem dX7_gains_54 : decode cX7_gains 54 = .ok (.getfield 150, 3) := by decide +kernel
theorem dX7_gains_57 : decode cX7_gains 57 = .ok (.iload_n 1, 1) := by decide +kernel
theorem dX7_gains_58 : decode cX7_gains 58 = .ok (.aaload, 1) := by decide +kernel
theorem dX7_gains_59 : decode cX7_gains 59 = .ok (.invokevirtual 201, 3) := by decide +kernel
theorem dX7_gains_62 : decode cX7_gains 62 = .ok (.aload_n 0, 1) := by decide +kernel
theorem dX7_gains_63 : decode cX7_gains 63 = .ok (.getfield 67, 3) := by decide +kernel
theorem dX7_gains_66 : decode cX7_gains 66 = .ok (.iload_n 3, 1) := by decide +kernel
theorem dX7_gains_67 : decode cX7_gains 67 = .ok (.iload_n 2, 1) := by decide +kernel
theorem dX7_gains_68 : decode cX7_gains 68 = .ok (.invokevirtual 205, 3) := by decide +kernel
theorem dX7_gains_71 : decode cX7_gains 71 = .ok (.lstore 5, 2) := by decide +kernel
theorem dX7_gains_73 : decode cX7_gains 73 = .ok (.iload 4, 2) := by decide +kernel
theorem dX7_gains_75 : decode cX7_gains 75 = .ok (.ifCond .ne 9, 3) := by decide +kernel
theorem dX7_gains_78 : decode cX7_gains 78 = .ok (.lload 5, 2) := by decide +kernel
theorem dX7_gains_80 : decode cX7_gains 80 = .ok (.invokestatic 209, 3) := by decide +kernel
theorem dX7_gains_83 : decode cX7_gains 83 = .ok (.ireturn, 1) := by decide +kernel
theorem dX7_gains_84 : decode cX7_gains 84 = .ok (.lload 5, 2) := by decide +kernel
theorem dX7_gains_86 : decode cX7_gains 86 = .ok (.lconst 0, 1) := by decide +kernel
theorem dX7_gains_87 : decode cX7_gains 87 = .ok (.lcmp, 1) := by decide +kernel
theorem dX7_gains_88 : decode cX7_gains 88 = .ok (.ifCond .ne 6, 3) := by decide +kernel
theorem dX7_gains_91 : decode cX7_gains 91 = .ok (.ldc 215, 2) := by decide +kernel
theorem dX7_gains_93 : decode cX7_gains 93 = .ok (.ireturn, 1) := by decide +kernel
theorem dX7_gains_94 : decode cX7_gains 94 = .ok (.iload 4, 2) := by decide +kernel
theorem dX7_gains_96 : decode cX7_gains 96 = .ok (.iconst 1, 1) := by decide +kernel
theorem dX7_gains_97 : decode cX7_gains 97 = .ok (.if_icmp .ne 11, 3) := by decide +kernel
theorem dX7_gains_100 : decode cX7_gains 100 = .ok (.lload 5, 2) := by decide +kernel
theorem dX7_gains_102 : decode cX7_gains 102 = .ok (.invokestatic 216, 3) := by decide +kernel
theorem dX7_gains_105 : decode cX7_gains 105 = .ok (.goto 11, 3) := by decide +kernel
theorem dX7_gains_108 : decode cX7_gains 108 = .ok (.bipush 63, 2) := by decide +kernel
theorem dX7_gains_110 : decode cX7_gains 110 = .ok (.lload 5, 2) := by decide +kernel
theorem dX7_gains_112 : decode cX7_gains 112 = .ok (.invokestatic 219, 3) := by decide +kernel
theorem dX7_gains_115 : decode cX7_gains 115 = .ok (.isub, 1) := by decide +kernel
theorem dX7_gains_116 : decode cX7_gains 116 = .ok (.ireturn, 1) := by decide +kernel
theorem dX7_soonest_0 : decode cX7_soonest 0 = .ok (.aload_n 0, 1) := by decide +kernel
theorem dX7_soonest_1 : decode cX7_soonest 1 = .ok (.iload_n 1, 1) := by decide +kernel
theorem dX7_soonest_2 : decode cX7_soonest 2 = .ok (.invokevirtual 141, 3) := by decide +kernel
theorem dX7_soonest_5 : decode cX7_soonest 5 = .ok (.ifCond .ne 21, 3) := by decide +kernel
theorem dX7_soonest_8 : decode cX7_soonest 8 = .ok (.aload_n 0, 1) := by decide +kernel
theorem dX7_soonest_9 : decode cX7_soonest 9 = .ok (.iload_n 2, 1) := by decide +kernel
theorem dX7_soonest_10 : decode cX7_soonest 10 = .ok (.invokevirtual 198, 3) := by decide +kernel
theorem dX7_soonest_13 : decode cX7_soonest 13 = .ok (.ifCond .ne 13, 3) := by decide +kernel
theorem dX7_soonest_16 : decode cX7_soonest 16 = .ok (.iload_n 3, 1) := by decide +kernel
theorem dX7_soonest_17 : decode cX7_soonest 17 = .ok (.iconst 0, 1) := by decide +kernel
theorem dX7_soonest_18 : decode cX7_soonest 18 = .ok (.bipush 40, 2) := by decide +kernel
theorem dX7_soonest_20 : decode cX7_soonest 20 = .ok (.invokestatic 85, 3) := by decide +kernel
theorem dX7_soonest_23 : decode cX7_soonest 23 = .ok (.ifCond .eq 6, 3) := by decide +kernel
theorem dX7_soonest_26 : decode cX7_soonest 26 = .ok (.ldc 89, 2) := by decide +kernel
theorem dX7_soonest_28 : decode cX7_soonest 28 = .ok (.ireturn, 1) := by decide +kernel
theorem dX7_soonest_29 : decode cX7_soonest 29 = .ok (.aload_n 0, 1) := by decide +kernel
theorem dX7_soonest_30 : decode cX7_soonest 30 = .ok (.getfield 67, 3) := by decide +kernel
theorem dX7_soonest_33 : decode cX7_soonest 33 = .ok (.aload_n 0, 1) := by decide +kernel
theorem dX7_soonest_34 : decode cX7_soonest 34 = .ok (.getfield 42, 3) := by decide +kernel
theorem dX7_soonest_37 : decode cX7_soonest 37 = .ok (.aload_n 0, 1) := by decide +kernel
theorem dX7_soonest_38 : decode cX7_soonest 38 = .ok (.getfield 42, 3) := by decide +kernel
theorem dX7_soonest_41 : decode cX7_soonest 41 = .ok (.getfield 150, 3) := by decide +kernel
theorem dX7_soonest_44 : decode cX7_soonest 44 = .ok (.iload_n 1, 1) := by decide +kernel
theorem dX7_soonest_45 : decode cX7_soonest 45 = .ok (.aaload, 1) := by decide +kernel
theorem dX7_soonest_46 : decode cX7_soonest 46 = .ok (.invokevirtual 201, 3) := by decide +kernel
theorem dX7_soonest_49 : decode cX7_soonest 49 = .ok (.iconst 0, 1) := by decide +kernel
theorem dX7_soonest_50 : decode cX7_soonest 50 = .ok (.istore 4, 2) := by decide +kernel
theorem dX7_soonest_52 : decode cX7_soonest 52 = .ok (.iload 4, 2) := by decide +kernel
theorem dX7_soonest_54 : decode cX7_soonest 54 = .ok (.bipush 40, 2) := by decide +kernel
theorem dX7_soonest_56 : decode cX7_soonest 56 = .ok (.if_icmp .gt 26, 3) := by decide +kernel
theorem dX7_soonest_59 : decode cX7_soonest 59 = .ok (.aload_n 0, 1) := by decide +kernel
theorem dX7_soonest_60 : decode cX7_soonest 60 = .ok (.getfield 67, 3) := by decide +kernel
theorem dX7_soonest_63 : decode cX7_soonest 63 = .ok (.iload 4, 2) := by decide +kernel
theorem dX7_soonest_65 : decode cX7_soonest 65 = .ok (.iload_n 2, 1) := by decide +kernel
theorem dX7_soonest_66 : decode cX7_soonest 66 = .ok (.iload_n 3, 1) := by decide +kernel
theorem dX7_soonest_67 : decode cX7_soonest 67 = .ok (.invokevirtual 222, 3) := by decide +kernel
theorem dX7_soonest_70 : decode cX7_soonest 70 = .ok (.ifCond .eq 6, 3) := by decide +kernel
theorem dX7_soonest_73 : decode cX7_soonest 73 = .ok (.iload 4, 2) := by decide +kernel
theorem dX7_soonest_75 : decode cX7_soonest 75 = .ok (.ireturn, 1) := by decide +kernel
theorem dX7_soonest_76 : decode cX7_soonest 76 = .ok (.iinc 4 1, 3) := by decide +kernel
theorem dX7_soonest_79 : decode cX7_soonest 79 = .ok (.goto (-27), 3) := by decide +kernel
theorem dX7_soonest_82 : decode cX7_soonest 82 = .ok (.ldc 215, 2) := by decide +kernel
theorem dX7_soonest_84 : decode cX7_soonest 84 = .ok (.ireturn, 1) := by decide +kernel
theorem dX7_voyages_0 : decode cX7_voyages 0 = .ok (.aload_n 0, 1) := by decide +kernel
theorem dX7_voyages_1 : decode cX7_voyages 1 = .ok (.iload_n 1, 1) := by decide +kernel
theorem dX7_voyages_2 : decode cX7_voyages 2 = .ok (.invokevirtual 141, 3) := by decide +kernel
theorem dX7_voyages_5 : decode cX7_voyages 5 = .ok (.ifCond .ne 11, 3) := by decide +kernel
theorem dX7_voyages_8 : decode cX7_voyages 8 = .ok (.aload_n 0, 1) := by decide +kernel
theorem dX7_voyages_9 : decode cX7_voyages 9 = .ok (.iload_n 2, 1) := by decide +kernel
theorem dX7_voyages_10 : decode cX7_voyages 10 = .ok (.invokevirtual 198, 3) := by decide +kernel
theorem dX7_voyages_13 : decode cX7_voyages 13 = .ok (.ifCond .eq 6, 3) := by decide +kernel
theorem dX7_voyages_16 : decode cX7_voyages 16 = .ok (.ldc 89, 2) := by decide +kernel
theorem dX7_voyages_18 : decode cX7_voyages 18 = .ok (.ireturn, 1) := by decide +kernel
theorem dX7_voyages_19 : decode cX7_voyages 19 = .ok (.aload_n 0, 1) := by decide +kernel
theorem dX7_voyages_20 : decode cX7_voyages 20 = .ok (.getfield 42, 3) := by decide +kernel
theorem dX7_voyages_23 : decode cX7_voyages 23 = .ok (.getfield 150, 3) := by decide +kernel
theorem dX7_voyages_26 : decode cX7_voyages 26 = .ok (.iload_n 1, 1) := by decide +kernel
theorem dX7_voyages_27 : decode cX7_voyages 27 = .ok (.aaload, 1) := by decide +kernel
theorem dX7_voyages_28 : decode cX7_voyages 28 = .ok (.astore_n 3, 1) := by decide +kernel
theorem dX7_voyages_29 : decode cX7_voyages 29 = .ok (.iconst 1, 1) := by decide +kernel
theorem dX7_voyages_30 : decode cX7_voyages 30 = .ok (.aload_n 3, 1) := by decide +kernel
theorem dX7_voyages_31 : decode cX7_voyages 31 = .ok (.getfield 154, 3) := by decide +kernel
theorem dX7_voyages_34 : decode cX7_voyages 34 = .ok (.ishl, 1) := by decide +kernel
theorem dX7_voyages_35 : decode cX7_voyages 35 = .ok (.istore 4, 2) := by decide +kernel
theorem dX7_voyages_37 : decode cX7_voyages 37 = .ok (.iconst 0, 1) := by decide +kernel
theorem dX7_voyages_38 : decode cX7_voyages 38 = .ok (.istore 5, 2) := by decide +kernel
theorem dX7_voyages_40 : decode cX7_voyages 40 = .ok (.iload 5, 2) := by decide +kernel
theorem dX7_voyages_42 : decode cX7_voyages 42 = .ok (.iconst 5, 1) := by decide +kernel
theorem dX7_voyages_43 : decode cX7_voyages 43 = .ok (.if_icmp .ge 34, 3) := by decide +kernel
theorem dX7_voyages_46 : decode cX7_voyages 46 = .ok (.iload 4, 2) := by decide +kernel
theorem dX7_voyages_48 : decode cX7_voyages 48 = .ok (.iload_n 2, 1) := by decide +kernel
theorem dX7_voyages_49 : decode cX7_voyages 49 = .ok (.ishr, 1) := by decide +kernel
theorem dX7_voyages_50 : decode cX7_voyages 50 = .ok (.iconst 1, 1) := by decide +kernel
theorem dX7_voyages_51 : decode cX7_voyages 51 = .ok (.iand, 1) := by decide +kernel
theorem dX7_voyages_52 : decode cX7_voyages 52 = .ok (.iconst 1, 1) := by decide +kernel
theorem dX7_voyages_53 : decode cX7_voyages 53 = .ok (.if_icmp .ne 6, 3) := by decide +kernel
theorem dX7_voyages_56 : decode cX7_voyages 56 = .ok (.iload 5, 2) := by decide +kernel
theorem dX7_voyages_58 : decode cX7_voyages 58 = .ok (.ireturn, 1) := by decide +kernel
theorem dX7_voyages_59 : decode cX7_voyages 59 = .ok (.aload_n 0, 1) := by decide +kernel
theorem dX7_voyages_60 : decode cX7_voyages 60 = .ok (.getfield 42, 3) := by decide +kernel
theorem dX7_voyages_63 : decode cX7_voyages 63 = .ok (.aload_n 3, 1) := by decide +kernel
theorem dX7_voyages_64 : decode cX7_voyages 64 = .ok (.iload 4, 2) := by decide +kernel
theorem dX7_voyages_66 : decode cX7_voyages 66 = .ok (.invokevirtual 225, 3) := by decide +kernel
theorem dX7_voyages_69 : decode cX7_voyages 69 = .ok (.istore 4, 2) := by decide +kernel
theorem dX7_voyages_71 : decode cX7_voyages 71 = .ok (.iinc 5 1, 3) := by decide +kernel
theorem dX7_voyages_74 : decode cX7_voyages 74 = .ok (.goto (-34), 3) := by decide +kernel
theorem dX7_voyages_77 : decode cX7_voyages 77 = .ok (.ldc 215, 2) := by decide +kernel
theorem dX7_voyages_79 : decode cX7_voyages 79 = .ok (.ireturn, 1) := by decide +kernel
theorem dX7_even_0 : decode cX7_even 0 = .ok (.aload_n 0, 1) := by decide +kernel
theorem dX7_even_1 : decode cX7_even 1 = .ok (.iload_n 1, 1) := by decide +kernel
theorem dX7_even_2 : decode cX7_even 2 = .ok (.invokevirtual 141, 3) := by decide +kernel
theorem dX7_even_5 : decode cX7_even 5 = .ok (.ifCond .ne 24, 3) := by decide +kernel
theorem dX7_even_8 : decode cX7_even 8 = .ok (.aload_n 0, 1) := by decide +kernel
theorem dX7_even_9 : decode cX7_even 9 = .ok (.iload_n 2, 1) := by decide +kernel
theorem dX7_even_10 : decode cX7_even 10 = .ok (.invokevirtual 141, 3) := by decide +kernel
theorem dX7_even_13 : decode cX7_even 13 = .ok (.ifCond .ne 16, 3) := by decide +kernel
theorem dX7_even_16 : decode cX7_even 16 = .ok (.iload_n 1, 1) := by decide +kernel
theorem dX7_even_17 : decode cX7_even 17 = .ok (.iload_n 2, 1) := by decide +kernel
theorem dX7_even_18 : decode cX7_even 18 = .ok (.if_icmp .eq 11, 3) := by decide +kernel
theorem dX7_even_21 : decode cX7_even 21 = .ok (.aload_n 0, 1) := by decide +kernel
theorem dX7_even_22 : decode cX7_even 22 = .ok (.iload_n 3, 1) := by decide +kernel
theorem dX7_even_23 : decode cX7_even 23 = .ok (.invokevirtual 198, 3) := by decide +kernel
theorem dX7_even_26 : decode cX7_even 26 = .ok (.ifCond .eq 6, 3) := by decide +kernel
theorem dX7_even_29 : decode cX7_even 29 = .ok (.ldc 89, 2) := by decide +kernel
theorem dX7_even_31 : decode cX7_even 31 = .ok (.ireturn, 1) := by decide +kernel
theorem dX7_even_32 : decode cX7_even 32 = .ok (.aload_n 0, 1) := by decide +kernel
theorem dX7_even_33 : decode cX7_even 33 = .ok (.getfield 42, 3) := by decide +kernel
theorem dX7_even_36 : decode cX7_even 36 = .ok (.getfield 150, 3) := by decide +kernel
theorem dX7_even_39 : decode cX7_even 39 = .ok (.iload_n 1, 1) := by decide +kernel
theorem dX7_even_40 : decode cX7_even 40 = .ok (.aaload, 1) := by decide +kernel
theorem dX7_even_41 : decode cX7_even 41 = .ok (.astore 4, 2) := by decide +kernel
theorem dX7_even_43 : decode cX7_even 43 = .ok (.aload_n 0, 1) := by decide +kernel
theorem dX7_even_44 : decode cX7_even 44 = .ok (.getfield 42, 3) := by decide +kernel
theorem dX7_even_47 : decode cX7_even 47 = .ok (.getfield 150, 3) := by decide +kernel
theorem dX7_even_50 : decode cX7_even 50 = .ok (.iload_n 2, 1) := by decide +kernel
theorem dX7_even_51 : decode cX7_even 51 = .ok (.aaload, 1) := by decide +kernel
theorem dX7_even_52 : decode cX7_even 52 = .ok (.astore 5, 2) := by decide +kernel
theorem dX7_even_54 : decode cX7_even 54 = .ok (.aload_n 0, 1) := by decide +kernel
theorem dX7_even_55 : decode cX7_even 55 = .ok (.getfield 67, 3) := by decide +kernel
theorem dX7_even_58 : decode cX7_even 58 = .ok (.aload_n 0, 1) := by decide +kernel
theorem dX7_even_59 : decode cX7_even 59 = .ok (.getfield 42, 3) := by decide +kernel
theorem dX7_even_62 : decode cX7_even 62 = .ok (.aload 4, 2) := by decide +kernel
theorem dX7_even_64 : decode cX7_even 64 = .ok (.invokevirtual 201, 3) := by decide +kernel
theorem dX7_even_67 : decode cX7_even 67 = .ok (.aload_n 0, 1) := by decide +kernel
theorem dX7_even_68 : decode cX7_even 68 = .ok (.getfield 71, 3) := by decide +kernel
theorem dX7_even_71 : decode cX7_even 71 = .ok (.aload_n 0, 1) := by decide +kernel
theorem dX7_even_72 : decode cX7_even 72 = .ok (.getfield 42, 3) := by decide +kernel
theorem dX7_even_75 : decode cX7_even 75 = .ok (.aload 5, 2) := by decide +kernel
theorem dX7_even_77 : decode cX7_even 77 = .ok (.invokevirtual 201, 3) := by decide +kernel
theorem dX7_even_80 : decode cX7_even 80 = .ok (.aload 4, 2) := by decide +kernel
theorem dX7_even_82 : decode cX7_even 82 = .ok (.getfield 169, 3) := by decide +kernel
theorem dX7_even_85 : decode cX7_even 85 = .ok (.aload 4, 2) := by decide +kernel
theorem dX7_even_87 : decode cX7_even 87 = .ok (.getfield 159, 3) := by decide +kernel
theorem dX7_even_90 : decode cX7_even 90 = .ok (.isub, 1) := by decide +kernel
theorem dX7_even_91 : decode cX7_even 91 = .ok (.aload 5, 2) := by decide +kernel
theorem dX7_even_93 : decode cX7_even 93 = .ok (.getfield 169, 3) := by decide +kernel
theorem dX7_even_96 : decode cX7_even 96 = .ok (.aload 5, 2) := by decide +kernel
theorem dX7_even_98 : decode cX7_even 98 = .ok (.getfield 159, 3) := by decide +kernel
theorem dX7_even_101 : decode cX7_even 101 = .ok (.isub, 1) := by decide +kernel
theorem dX7_even_102 : decode cX7_even 102 = .ok (.isub, 1) := by decide +kernel
theorem dX7_even_103 : decode cX7_even 103 = .ok (.istore 6, 2) := by decide +kernel
theorem dX7_even_105 : decode cX7_even 105 = .ok (.aload 4, 2) := by decide +kernel
theorem dX7_even_107 : decode cX7_even 107 = .ok (.getfield 159, 3) := by decide +kernel
theorem dX7_even_110 : decode cX7_even 110 = .ok (.aload 5, 2) := by decide +kernel
theorem dX7_even_112 : decode cX7_even 112 = .ok (.getfield 159, 3) := by decide +kernel
theorem dX7_even_115 : decode cX7_even 115 = .ok (.invokestatic 229, 3) := by decide +kernel
theorem dX7_even_118 : decode cX7_even 118 = .ok (.bipush 40, 2) := by decide +kernel
theorem dX7_even_120 : decode cX7_even 120 = .ok (.iadd, 1) := by decide +kernel
theorem dX7_even_121 : decode cX7_even 121 = .ok (.istore 7, 2) := by decide +kernel
theorem dX7_even_123 : decode cX7_even 123 = .ok (.aload 4, 2) := by decide +kernel
theorem dX7_even_125 : decode cX7_even 125 = .ok (.getfield 159, 3) := by decide +kernel
theorem dX7_even_128 : decode cX7_even 128 = .ok (.aload 5, 2) := by decide +kernel
theorem dX7_even_130 : decode cX7_even 130 = .ok (.getfield 159, 3) := by decide +kernel
theorem dX7_even_133 : decode cX7_even 133 = .ok (.invokestatic 173, 3) := by decide +kernel
theorem dX7_even_136 : decode cX7_even 136 = .ok (.istore 8, 2) := by decide +kernel
theorem dX7_even_138 : decode cX7_even 138 = .ok (.iload 8, 2) := by decide +kernel
theorem dX7_even_140 : decode cX7_even 140 = .ok (.iload 7, 2) := by decide +kernel
theorem dX7_even_142 : decode cX7_even 142 = .ok (.if_icmp .gt 60, 3) := by decide +kernel
theorem dX7_even_145 : decode cX7_even 145 = .ok (.aload_n 0, 1) := by decide +kernel
theorem dX7_even_146 : decode cX7_even 146 = .ok (.getfield 67, 3) := by decide +kernel
theorem dX7_even_149 : decode cX7_even 149 = .ok (.iload 8, 2) := by decide +kernel
theorem dX7_even_151 : decode cX7_even 151 = .ok (.aload 4, 2) := by decide +kernel
theorem dX7_even_153 : decode cX7_even 153 = .ok (.getfield 159, 3) := by decide +kernel
theorem dX7_even_156 : decode cX7_even 156 = .ok (.isub, 1) := by decide +kernel
theorem dX7_even_157 : decode cX7_even 157 = .ok (.iload_n 3, 1) := by decide +kernel
theorem dX7_even_158 : decode cX7_even 158 = .ok (.invokevirtual 205, 3) := by decide +kernel
theorem dX7_even_161 : decode cX7_even 161 = .ok (.lstore 9, 2) := by decide +kernel
theorem dX7_even_163 : decode cX7_even 163 = .ok (.aload_n 0, 1) := by decide +kernel
theorem dX7_even_164 : decode cX7_even 164 = .ok (.getfield 71, 3) := by decide +kernel
theorem dX7_even_167 : decode cX7_even 167 = .ok (.iload 8, 2) := by decide +kernel
theorem dX7_even_169 : decode cX7_even 169 = .ok (.aload 5, 2) := by decide +kernel
theorem dX7_even_171 : decode cX7_even 171 = .ok (.getfield 159, 3) := by decide +kernel
theorem dX7_even_174 : decode cX7_even 174 = .ok (.isub, 1) := by decide +kernel
theorem dX7_even_175 : decode cX7_even 175 = .ok (.iload_n 3, 1) := by decide +kernel
theorem dX7_even_176 : decode cX7_even 176 = .ok (.invokevirtual 205, 3) := by decide +kernel
theorem dX7_even_179 : decode cX7_even 179 = .ok (.lstore 11, 2) := by decide +kernel
theorem dX7_even_181 : decode cX7_even 181 = .ok (.lload 9, 2) := by decide +kernel
theorem dX7_even_183 : decode cX7_even 183 = .ok (.lload 11, 2) := by decide +kernel
theorem dX7_even_185 : decode cX7_even 185 = .ok (.iload 6, 2) := by decide +kernel
theorem dX7_even_187 : decode cX7_even 187 = .ok (.invokestatic 232, 3) := by decide +kernel
theorem dX7_even_190 : decode cX7_even 190 = .ok (.ifCond .eq 6, 3) := by decide +kernel
theorem dX7_even_193 : decode cX7_even 193 = .ok (.iload 8, 2) := by decide +kernel
theorem dX7_even_195 : decode cX7_even 195 = .ok (.ireturn, 1) := by decide +kernel
theorem dX7_even_196 : decode cX7_even 196 = .ok (.iinc 8 1, 3) := by decide +kernel
theorem dX7_even_199 : decode cX7_even 199 = .ok (.goto (-61), 3) := by decide +kernel
theorem dX7_even_202 : decode cX7_even 202 = .ok (.ldc 215, 2) := by decide +kernel
theorem dX7_even_204 : decode cX7_even 204 = .ok (.ireturn, 1) := by decide +kernel
theorem dX7_where_0 : decode cX7_where 0 = .ok (.aload_n 0, 1) := by decide +kernel
theorem dX7_where_1 : decode cX7_where 1 = .ok (.iload_n 1, 1) := by decide +kernel
theorem dX7_where_2 : decode cX7_where 2 = .ok (.invokevirtual 141, 3) := by decide +kernel
theorem dX7_where_5 : decode cX7_where 5 = .ok (.ifCond .ne 25, 3) := by decide +kernel
theorem dX7_where_8 : decode cX7_where 8 = .ok (.iload_n 2, 1) := by decide +kernel
theorem dX7_where_9 : decode cX7_where 9 = .ok (.iconst 0, 1) := by decide +kernel
theorem dX7_where_10 : decode cX7_where 10 = .ok (.sipush 200, 3) := by decide +kernel
theorem dX7_where_13 : decode cX7_where 13 = .ok (.invokestatic 85, 3) := by decide +kernel
theorem dX7_where_16 : decode cX7_where 16 = .ok (.ifCond .ne 14, 3) := by decide +kernel
theorem dX7_where_19 : decode cX7_where 19 = .ok (.iload_n 3, 1) := by decide +kernel
theorem dX7_where_20 : decode cX7_where 20 = .ok (.iconst 0, 1) := by decide +kernel
theorem dX7_where_21 : decode cX7_where 21 = .ok (.sipush 399, 3) := by decide +kernel
theorem dX7_where_24 : decode cX7_where 24 = .ok (.invokestatic 85, 3) := by decide +kernel
theorem dX7_where_27 : decode cX7_where 27 = .ok (.ifCond .eq 6, 3) := by decide +kernel
theorem dX7_where_30 : decode cX7_where 30 = .ok (.ldc 89, 2) := by decide +kernel
theorem dX7_where_32 : decode cX7_where 32 = .ok (.ireturn, 1) := by decide +kernel
theorem dX7_where_33 : decode cX7_where 33 = .ok (.aload_n 0, 1) := by decide +kernel
theorem dX7_where_34 : decode cX7_where 34 = .ok (.getfield 42, 3) := by decide +kernel
theorem dX7_where_37 : decode cX7_where 37 = .ok (.getfield 150, 3) := by decide +kernel
theorem dX7_where_40 : decode cX7_where 40 = .ok (.iload_n 1, 1) := by decide +kernel
theorem dX7_where_41 : decode cX7_where 41 = .ok (.aaload, 1) := by decide +kernel
theorem dX7_where_42 : decode cX7_where 42 = .ok (.astore 4, 2) := by decide +kernel
theorem dX7_where_44 : decode cX7_where 44 = .ok (.iload_n 2, 1) := by decide +kernel
theorem dX7_where_45 : decode cX7_where 45 = .ok (.aload 4, 2) := by decide +kernel
theorem dX7_where_47 : decode cX7_where 47 = .ok (.getfield 159, 3) := by decide +kernel
theorem dX7_where_50 : decode cX7_where 50 = .ok (.isub, 1) := by decide +kernel
theorem dX7_where_51 : decode cX7_where 51 = .ok (.istore 5, 2) := by decide +kernel
theorem dX7_where_53 : decode cX7_where 53 = .ok (.aload 4, 2) := by decide +kernel
theorem dX7_where_55 : decode cX7_where 55 = .ok (.getfield 169, 3) := by decide +kernel
theorem dX7_where_58 : decode cX7_where 58 = .ok (.iload 5, 2) := by decide +kernel
theorem dX7_where_60 : decode cX7_where 60 = .ok (.iadd, 1) := by decide +kernel
theorem dX7_where_61 : decode cX7_where 61 = .ok (.iload_n 3, 1) := by decide +kernel
theorem dX7_where_62 : decode cX7_where 62 = .ok (.isub, 1) := by decide +kernel
theorem dX7_where_63 : decode cX7_where 63 = .ok (.istore 6, 2) := by decide +kernel
theorem dX7_where_65 : decode cX7_where 65 = .ok (.aload_n 0, 1) := by decide +kernel
theorem dX7_where_66 : decode cX7_where 66 = .ok (.getfield 67, 3) := by decide +kernel
theorem dX7_where_69 : decode cX7_where 69 = .ok (.aload_n 0, 1) := by decide +kernel
theorem dX7_where_70 : decode cX7_where 70 = .ok (.getfield 42, 3) := by decide +kernel
theorem dX7_where_73 : decode cX7_where 73 = .ok (.aload 4, 2) := by decide +kernel
theorem dX7_where_75 : decode cX7_where 75 = .ok (.invokevirtual 201, 3) := by decide +kernel
theorem dX7_where_78 : decode cX7_where 78 = .ok (.iconst 0, 1) := by decide +kernel
theorem dX7_where_79 : decode cX7_where 79 = .ok (.istore 7, 2) := by decide +kernel
theorem dX7_where_81 : decode cX7_where 81 = .ok (.iconst 0, 1) := by decide +kernel
theorem dX7_where_82 : decode cX7_where 82 = .ok (.istore 8, 2) := by decide +kernel
theorem dX7_where_84 : decode cX7_where 84 = .ok (.iload 8, 2) := by decide +kernel
theorem dX7_where_86 : decode cX7_where 86 = .ok (.aload_n 0, 1) := by decide +kernel
theorem dX7_where_87 : decode cX7_where 87 = .ok (.getfield 42, 3) := by decide +kernel
theorem dX7_where_90 : decode cX7_where 90 = .ok (.getfield 236, 3) := by decide +kernel
theorem dX7_where_93 : decode cX7_where 93 = .ok (.if_icmp .ge 34, 3) := by decide +kernel
theorem dX7_where_96 : decode cX7_where 96 = .ok (.aload_n 0, 1) := by decide +kernel
theorem dX7_where_97 : decode cX7_where 97 = .ok (.getfield 67, 3) := by decide +kernel
theorem dX7_where_100 : decode cX7_where 100 = .ok (.iload 5, 2) := by decide +kernel
theorem dX7_where_102 : decode cX7_where 102 = .ok (.iload 8, 2) := by decide +kernel
theorem dX7_where_104 : decode cX7_where 104 = .ok (.iload 6, 2) := by decide +kernel
theorem dX7_where_106 : decode cX7_where 106 = .ok (.invokevirtual 222, 3) := by decide +kernel
theorem dX7_where_109 : decode cX7_where 109 = .ok (.ifCond .eq 12, 3) := by decide +kernel
theorem dX7_where_112 : decode cX7_where 112 = .ok (.iload 7, 2) := by decide +kernel
theorem dX7_where_114 : decode cX7_where 114 = .ok (.iconst 1, 1) := by decide +kernel
theorem dX7_where_115 : decode cX7_where 115 = .ok (.iload 8, 2) := by decide +kernel
theorem dX7_where_117 : decode cX7_where 117 = .ok (.ishl, 1) := by decide +kernel
theorem dX7_where_118 : decode cX7_where 118 = .ok (.ior, 1) := by decide +kernel
theorem dX7_where_119 : decode cX7_where 119 = .ok (.istore 7, 2) := by decide +kernel
theorem dX7_where_121 : decode cX7_where 121 = .ok (.iinc 8 1, 3) := by decide +kernel
theorem dX7_where_124 : decode cX7_where 124 = .ok (.goto (-40), 3) := by decide +kernel
theorem dX7_where_127 : decode cX7_where 127 = .ok (.iload 7, 2) := by decide +kernel
theorem dX7_where_129 : decode cX7_where 129 = .ok (.ireturn, 1) := by decide +kernel
theorem dX7_gone_0 : decode cX7_gone 0 = .ok (.aload_n 0, 1) := by decide +kernel
theorem dX7_gone_1 : decode cX7_gone 1 = .ok (.iload_n 1, 1) := by decide +kernel
theorem dX7_gone_2 : decode cX7_gone 2 = .ok (.invokevirtual 141, 3) := by decide +kernel
theorem dX7_gone_5 : decode cX7_gone 5 = .ok (.ifCond .eq 6, 3) := by decide +kernel
theorem dX7_gone_8 : decode cX7_gone 8 = .ok (.ldc 89, 2) := by decide +kernel
theorem dX7_gone_10 : decode cX7_gone 10 = .ok (.ireturn, 1) := by decide +kernel
theorem dX7_gone_11 : decode cX7_gone 11 = .ok (.aload_n 0, 1) := by decide +kernel
theorem dX7_gone_12 : decode cX7_gone 12 = .ok (.getfield 42, 3) := by decide +kernel
theorem dX7_gone_15 : decode cX7_gone 15 = .ok (.getfield 150, 3) := by decide +kernel
theorem dX7_gone_18 : decode cX7_gone 18 = .ok (.iload_n 1, 1) := by decide +kernel
theorem dX7_gone_19 : decode cX7_gone 19 = .ok (.aaload, 1) := by decide +kernel
theorem dX7_gone_20 : decode cX7_gone 20 = .ok (.astore_n 2, 1) := by decide +kernel
theorem dX7_gone_21 : decode cX7_gone 21 = .ok (.aload_n 2, 1) := by decide +kernel
theorem dX7_gone_22 : decode cX7_gone 22 = .ok (.aload_n 0, 1) := by decide +kernel
theorem dX7_gone_23 : decode cX7_gone 23 = .ok (.getfield 42, 3) := by decide +kernel
theorem dX7_gone_26 : decode cX7_gone 26 = .ok (.getfield 178, 3) := by decide +kernel
theorem dX7_gone_29 : decode cX7_gone 29 = .ok (.invokevirtual 181, 3) := by decide +kernel
theorem dX7_gone_32 : decode cX7_gone 32 = .ok (.aload_n 2, 1) := by decide +kernel
theorem dX7_gone_33 : decode cX7_gone 33 = .ok (.aload_n 0, 1) := by decide +kernel
theorem dX7_gone_34 : decode cX7_gone 34 = .ok (.getfield 42, 3) := by decide +kernel
theorem dX7_gone_37 : decode cX7_gone 37 = .ok (.getfield 178, 3) := by decide +kernel
theorem dX7_gone_40 : decode cX7_gone 40 = .ok (.invokevirtual 195, 3) := by decide +kernel
theorem dX7_gone_43 : decode cX7_gone 43 = .ok (.isub, 1) := by decide +kernel
theorem dX7_gone_44 : decode cX7_gone 44 = .ok (.ireturn, 1) := by decide +kernel
theorem dX7_eldest_0 : decode cX7_eldest 0 = .ok (.aload_n 0, 1) := by decide +kernel
theorem dX7_eldest_1 : decode cX7_eldest 1 = .ok (.getfield 35, 3) := by decide +kernel
theorem dX7_eldest_4 : decode cX7_eldest 4 = .ok (.ifCond .ne 6, 3) := by decide +kernel
theorem dX7_eldest_7 : decode cX7_eldest 7 = .ok (.ldc 172, 2) := by decide +kernel
theorem dX7_eldest_9 : decode cX7_eldest 9 = .ok (.ireturn, 1) := by decide +kernel
theorem dX7_eldest_10 : decode cX7_eldest 10 = .ok (.iload_n 1, 1) := by decide +kernel
theorem dX7_eldest_11 : decode cX7_eldest 11 = .ok (.iconst 0, 1) := by decide +kernel
theorem dX7_eldest_12 : decode cX7_eldest 12 = .ok (.iconst 1, 1) := by decide +kernel
theorem dX7_eldest_13 : decode cX7_eldest 13 = .ok (.invokestatic 85, 3) := by decide +kernel
theorem dX7_eldest_16 : decode cX7_eldest 16 = .ok (.ifCond .eq 6, 3) := by decide +kernel
theorem dX7_eldest_19 : decode cX7_eldest 19 = .ok (.ldc 89, 2) := by decide +kernel
theorem dX7_eldest_21 : decode cX7_eldest 21 = .ok (.ireturn, 1) := by decide +kernel
theorem dX7_eldest_22 : decode cX7_eldest 22 = .ok (.ldc 215, 2) := by decide +kernel
theorem dX7_eldest_24 : decode cX7_eldest 24 = .ok (.istore_n 2, 1) := by decide +kernel
theorem dX7_eldest_25 : decode cX7_eldest 25 = .ok (.iconst (-1), 1) := by decide +kernel
theorem dX7_eldest_26 : decode cX7_eldest 26 = .ok (.istore_n 3, 1) := by decide +kernel
theorem dX7_eldest_27 : decode cX7_eldest 27 = .ok (.iconst 0, 1) := by decide +kernel
theorem dX7_eldest_28 : decode cX7_eldest 28 = .ok (.istore 4, 2) := by decide +kernel
theorem dX7_eldest_30 : decode cX7_eldest 30 = .ok (.iload 4, 2) := by decide +kernel
theorem dX7_eldest_32 : decode cX7_eldest 32 = .ok (.aload_n 0, 1) := by decide +kernel
theorem dX7_eldest_33 : decode cX7_eldest 33 = .ok (.getfield 42, 3) := by decide +kernel
theorem dX7_eldest_36 : decode cX7_eldest 36 = .ok (.getfield 138, 3) := by decide +kernel
theorem dX7_eldest_39 : decode cX7_eldest 39 = .ok (.if_icmp .ge 56, 3) := by decide +kernel
theorem dX7_eldest_42 : decode cX7_eldest 42 = .ok (.iload_n 1, 1) := by decide +kernel
theorem dX7_eldest_43 : decode cX7_eldest 43 = .ok (.ifCond .ne 19, 3) := by decide +kernel
theorem dX7_eldest_46 : decode cX7_eldest 46 = .ok (.aload_n 0, 1) := by decide +kernel
theorem dX7_eldest_47 : decode cX7_eldest 47 = .ok (.getfield 42, 3) := by decide +kernel
theorem dX7_eldest_50 : decode cX7_eldest 50 = .ok (.getfield 150, 3) := by decide +kernel
theorem dX7_eldest_53 : decode cX7_eldest 53 = .ok (.iload 4, 2) := by decide +kernel
theorem dX7_eldest_55 : decode cX7_eldest 55 = .ok (.aaload, 1) := by decide +kernel
theorem dX7_eldest_56 : decode cX7_eldest 56 = .ok (.getfield 169, 3) := by decide +kernel
theorem dX7_eldest_59 : decode cX7_eldest 59 = .ok (.goto 16, 3) := by decide +kernel
theorem dX7_eldest_62 : decode cX7_eldest 62 = .ok (.aload_n 0, 1) := by decide +kernel
theorem dX7_eldest_63 : decode cX7_eldest 63 = .ok (.getfield 42, 3) := by decide +kernel
theorem dX7_eldest_66 : decode cX7_eldest 66 = .ok (.getfield 150, 3) := by decide +kernel
theorem dX7_eldest_69 : decode cX7_eldest 69 = .ok (.iload 4, 2) := by decide +kernel
theorem dX7_eldest_71 : decode cX7_eldest 71 = .ok (.aaload, 1) := by decide +kernel
theorem dX7_eldest_72 : decode cX7_eldest 72 = .ok (.getfield 239, 3) := by decide +kernel
theorem dX7_eldest_75 : decode cX7_eldest 75 = .ok (.istore 5, 2) := by decide +kernel
theorem dX7_eldest_77 : decode cX7_eldest 77 = .ok (.iload 5, 2) := by decide +kernel
theorem dX7_eldest_79 : decode cX7_eldest 79 = .ok (.iload_n 3, 1) := by decide +kernel
theorem dX7_eldest_80 : decode cX7_eldest 80 = .ok (.if_icmp .le 9, 3) := by decide +kernel
theorem dX7_eldest_83 : decode cX7_eldest 83 = .ok (.iload 5, 2) := by decide +kernel
theorem dX7_eldest_85 : decode cX7_eldest 85 = .ok (.istore_n 3, 1) := by decide +kernel
theorem dX7_eldest_86 : decode cX7_eldest 86 = .ok (.iload 4, 2) := by decide +kernel
theorem dX7_eldest_88 : decode cX7_eldest 88 = .ok (.istore_n 2, 1) := by decide +kernel
theorem dX7_eldest_89 : decode cX7_eldest 89 = .ok (.iinc 4 1, 3) := by decide +kernel
theorem dX7_eldest_92 : decode cX7_eldest 92 = .ok (.goto (-62), 3) := by decide +kernel
theorem dX7_eldest_95 : decode cX7_eldest 95 = .ok (.iload_n 2, 1) := by decide +kernel
theorem dX7_eldest_96 : decode cX7_eldest 96 = .ok (.ireturn, 1) := by decide +kernel
theorem dX7_image_0 : decode cX7_image 0 = .ok (.iload_n 1, 1) := by decide +kernel
theorem dX7_image_1 : decode cX7_image 1 = .ok (.iconst 0, 1) := by decide +kernel
theorem dX7_image_2 : decode cX7_image 2 = .ok (.iconst 1, 1) := by decide +kernel
theorem dX7_image_3 : decode cX7_image 3 = .ok (.invokestatic 85, 3) := by decide +kernel
theorem dX7_image_6 : decode cX7_image 6 = .ok (.ifCond .eq 6, 3) := by decide +kernel
theorem dX7_image_9 : decode cX7_image 9 = .ok (.ldc 89, 2) := by decide +kernel
theorem dX7_image_11 : decode cX7_image 11 = .ok (.ireturn, 1) := by decide +kernel
theorem dX7_image_12 : decode cX7_image 12 = .ok (.aload_n 0, 1) := by decide +kernel
theorem dX7_image_13 : decode cX7_image 13 = .ok (.getfield 35, 3) := by decide +kernel
theorem dX7_image_16 : decode cX7_image 16 = .ok (.ifCond .ne 6, 3) := by decide +kernel
theorem dX7_image_19 : decode cX7_image 19 = .ok (.ldc 172, 2) := by decide +kernel
theorem dX7_image_21 : decode cX7_image 21 = .ok (.ireturn, 1) := by decide +kernel
theorem dX7_image_22 : decode cX7_image 22 = .ok (.aload_n 0, 1) := by decide +kernel
theorem dX7_image_23 : decode cX7_image 23 = .ok (.getfield 49, 3) := by decide +kernel
theorem dX7_image_26 : decode cX7_image 26 = .ok (.iload_n 1, 1) := by decide +kernel
theorem dX7_image_27 : decode cX7_image 27 = .ok (.aaload, 1) := by decide +kernel
theorem dX7_image_28 : decode cX7_image 28 = .ok (.aload_n 0, 1) := by decide +kernel
theorem dX7_image_29 : decode cX7_image 29 = .ok (.getfield 42, 3) := by decide +kernel
theorem dX7_image_32 : decode cX7_image 32 = .ok (.invokevirtual 132, 3) := by decide +kernel
theorem dX7_image_35 : decode cX7_image 35 = .ok (.aload_n 0, 1) := by decide +kernel
theorem dX7_image_36 : decode cX7_image 36 = .ok (.getfield 53, 3) := by decide +kernel
theorem dX7_image_39 : decode cX7_image 39 = .ok (.iload_n 1, 1) := by decide +kernel
theorem dX7_image_40 : decode cX7_image 40 = .ok (.iconst 1, 1) := by decide +kernel
theorem dX7_image_41 : decode cX7_image 41 = .ok (.bastore, 1) := by decide +kernel
theorem dX7_image_42 : decode cX7_image 42 = .ok (.iconst 1, 1) := by decide +kernel
theorem dX7_image_43 : decode cX7_image 43 = .ok (.ireturn, 1) := by decide +kernel
theorem dX7_restore_0 : decode cX7_restore 0 = .ok (.iload_n 1, 1) := by decide +kernel
theorem dX7_restore_1 : decode cX7_restore 1 = .ok (.iconst 0, 1) := by decide +kernel
theorem dX7_restore_2 : decode cX7_restore 2 = .ok (.iconst 1, 1) := by decide +kernel
theorem dX7_restore_3 : decode cX7_restore 3 = .ok (.invokestatic 85, 3) := by decide +kernel
theorem dX7_restore_6 : decode cX7_restore 6 = .ok (.ifCond .eq 6, 3) := by decide +kernel
theorem dX7_restore_9 : decode cX7_restore 9 = .ok (.ldc 89, 2) := by decide +kernel
theorem dX7_restore_11 : decode cX7_restore 11 = .ok (.ireturn, 1) := by decide +kernel
theorem dX7_restore_12 : decode cX7_restore 12 = .ok (.aload_n 0, 1) := by decide +kernel
theorem dX7_restore_13 : decode cX7_restore 13 = .ok (.getfield 53, 3) := by decide +kernel
theorem dX7_restore_16 : decode cX7_restore 16 = .ok (.iload_n 1, 1) := by decide +kernel
theorem dX7_restore_17 : decode cX7_restore 17 = .ok (.baload, 1) := by decide +kernel
theorem dX7_restore_18 : decode cX7_restore 18 = .ok (.ifCond .ne 6, 3) := by decide +kernel
theorem dX7_restore_21 : decode cX7_restore 21 = .ok (.ldc 172, 2) := by decide +kernel
theorem dX7_restore_23 : decode cX7_restore 23 = .ok (.ireturn, 1) := by decide +kernel
theorem dX7_restore_24 : decode cX7_restore 24 = .ok (.aload_n 0, 1) := by decide +kernel
theorem dX7_restore_25 : decode cX7_restore 25 = .ok (.getfield 42, 3) := by decide +kernel
theorem dX7_restore_28 : decode cX7_restore 28 = .ok (.aload_n 0, 1) := by decide +kernel
theorem dX7_restore_29 : decode cX7_restore 29 = .ok (.getfield 49, 3) := by decide +kernel
theorem dX7_restore_32 : decode cX7_restore 32 = .ok (.iload_n 1, 1) := by decide +kernel
theorem dX7_restore_33 : decode cX7_restore 33 = .ok (.aaload, 1) := by decide +kernel
theorem dX7_restore_34 : decode cX7_restore 34 = .ok (.invokevirtual 132, 3) := by decide +kernel
theorem dX7_restore_37 : decode cX7_restore 37 = .ok (.aload_n 0, 1) := by decide +kernel
theorem dX7_restore_38 : decode cX7_restore 38 = .ok (.getfield 60, 3) := by decide +kernel
theorem dX7_restore_41 : decode cX7_restore 41 = .ok (.invokevirtual 135, 3) := by decide +kernel
theorem dX7_restore_44 : decode cX7_restore 44 = .ok (.iconst 1, 1) := by decide +kernel
theorem dX7_restore_45 : decode cX7_restore 45 = .ok (.ireturn, 1) := by decide +kernel
theorem dX7_kind_0 : decode cX7_kind 0 = .ok (.aload_n 0, 1) := by decide +kernel
theorem dX7_kind_1 : decode cX7_kind 1 = .ok (.iload_n 1, 1) := by decide +kernel
theorem dX7_kind_2 : decode cX7_kind 2 = .ok (.invokevirtual 141, 3) := by decide +kernel
theorem dX7_kind_5 : decode cX7_kind 5 = .ok (.ifCond .eq 8, 3) := by decide +kernel
theorem dX7_kind_8 : decode cX7_kind 8 = .ok (.ldc 89, 2) := by decide +kernel
theorem dX7_kind_10 : decode cX7_kind 10 = .ok (.goto 15, 3) := by decide +kernel
theorem dX7_kind_13 : decode cX7_kind 13 = .ok (.aload_n 0, 1) := by decide +kernel
theorem dX7_kind_14 : decode cX7_kind 14 = .ok (.getfield 42, 3) := by decide +kernel
theorem dX7_kind_17 : decode cX7_kind 17 = .ok (.getfield 150, 3) := by decide +kernel
theorem dX7_kind_20 : decode cX7_kind 20 = .ok (.iload_n 1, 1) := by decide +kernel
theorem dX7_kind_21 : decode cX7_kind 21 = .ok (.aaload, 1) := by decide +kernel
theorem dX7_kind_22 : decode cX7_kind 22 = .ok (.getfield 242, 3) := by decide +kernel
theorem dX7_kind_25 : decode cX7_kind 25 = .ok (.ireturn, 1) := by decide +kernel
theorem dX7_as_0 : decode cX7_as 0 = .ok (.aload_n 0, 1) := by decide +kernel
theorem dX7_as_1 : decode cX7_as 1 = .ok (.iload_n 1, 1) := by decide +kernel
theorem dX7_as_2 : decode cX7_as 2 = .ok (.invokevirtual 141, 3) := by decide +kernel
theorem dX7_as_5 : decode cX7_as 5 = .ok (.ifCond .ne 12, 3) := by decide +kernel
theorem dX7_as_8 : decode cX7_as 8 = .ok (.iload_n 2, 1) := by decide +kernel
theorem dX7_as_9 : decode cX7_as 9 = .ok (.iconst 0, 1) := by decide +kernel
theorem dX7_as_10 : decode cX7_as 10 = .ok (.iconst 5, 1) := by decide +kernel
theorem dX7_as_11 : decode cX7_as 11 = .ok (.invokestatic 85, 3) := by decide +kernel
theorem dX7_as_14 : decode cX7_as 14 = .ok (.ifCond .eq 6, 3) := by decide +kernel
theorem dX7_as_17 : decode cX7_as 17 = .ok (.ldc 89, 2) := by decide +kernel
theorem dX7_as_19 : decode cX7_as 19 = .ok (.ireturn, 1) := by decide +kernel
theorem dX7_as_20 : decode cX7_as 20 = .ok (.aload_n 0, 1) := by decide +kernel
theorem dX7_as_21 : decode cX7_as 21 = .ok (.getfield 42, 3) := by decide +kernel
theorem dX7_as_24 : decode cX7_as 24 = .ok (.getfield 150, 3) := by decide +kernel
theorem dX7_as_27 : decode cX7_as 27 = .ok (.iload_n 1, 1) := by decide +kernel
theorem dX7_as_28 : decode cX7_as 28 = .ok (.aaload, 1) := by decide +kernel
theorem dX7_as_29 : decode cX7_as 29 = .ok (.getfield 242, 3) := by decide +kernel
theorem dX7_as_32 : decode cX7_as 32 = .ok (.iload_n 2, 1) := by decide +kernel
theorem dX7_as_33 : decode cX7_as 33 = .ok (.invokestatic 245, 3) := by decide +kernel
theorem dX7_as_36 : decode cX7_as 36 = .ok (.ifCond .ne 9, 3) := by decide +kernel
theorem dX7_as_39 : decode cX7_as 39 = .ok (.aload_n 0, 1) := by decide +kernel
theorem dX7_as_40 : decode cX7_as 40 = .ok (.iconst 3, 1) := by decide +kernel
theorem dX7_as_41 : decode cX7_as 41 = .ok (.invokevirtual 90, 3) := by decide +kernel
theorem dX7_as_44 : decode cX7_as 44 = .ok (.ireturn, 1) := by decide +kernel
theorem dX7_as_45 : decode cX7_as 45 = .ok (.aload_n 0, 1) := by decide +kernel
theorem dX7_as_46 : decode cX7_as 46 = .ok (.iload_n 1, 1) := by decide +kernel
theorem dX7_as_47 : decode cX7_as 47 = .ok (.invokevirtual 94, 3) := by decide +kernel
theorem dX7_as_50 : decode cX7_as 50 = .ok (.ireturn, 1) := by decide +kernel
theorem dX7_ask_0 : decode cX7_ask 0 = .ok (.aload_n 0, 1) := by decide +kernel
theorem dX7_ask_1 : decode cX7_ask 1 = .ok (.iload_n 1, 1) := by decide +kernel
theorem dX7_ask_2 : decode cX7_ask 2 = .ok (.invokevirtual 141, 3) := by decide +kernel
theorem dX7_ask_5 : decode cX7_ask 5 = .ok (.ifCond .ne 12, 3) := by decide +kernel
theorem dX7_ask_8 : decode cX7_ask 8 = .ok (.iload_n 2, 1) := by decide +kernel
theorem dX7_ask_9 : decode cX7_ask 9 = .ok (.iconst 0, 1) := by decide +kernel
theorem dX7_ask_10 : decode cX7_ask 10 = .ok (.iconst 1, 1) := by decide +kernel
theorem dX7_ask_11 : decode cX7_ask 11 = .ok (.invokestatic 85, 3) := by decide +kernel
theorem dX7_ask_14 : decode cX7_ask 14 = .ok (.ifCond .eq 6, 3) := by decide +kernel
theorem dX7_ask_17 : decode cX7_ask 17 = .ok (.ldc 89, 2) := by decide +kernel
theorem dX7_ask_19 : decode cX7_ask 19 = .ok (.ireturn, 1) := by decide +kernel
theorem dX7_ask_20 : decode cX7_ask 20 = .ok (.aload_n 0, 1) := by decide +kernel
theorem dX7_ask_21 : decode cX7_ask 21 = .ok (.getfield 77, 3) := by decide +kernel
theorem dX7_ask_24 : decode cX7_ask 24 = .ok (.iconst 0, 1) := by decide +kernel
theorem dX7_ask_25 : decode cX7_ask 25 = .ok (.putfield 249, 3) := by decide +kernel
theorem dX7_ask_28 : decode cX7_ask 28 = .ok (.aload_n 0, 1) := by decide +kernel
theorem dX7_ask_29 : decode cX7_ask 29 = .ok (.getfield 42, 3) := by decide +kernel
theorem dX7_ask_32 : decode cX7_ask 32 = .ok (.getfield 150, 3) := by decide +kernel
theorem dX7_ask_35 : decode cX7_ask 35 = .ok (.iload_n 1, 1) := by decide +kernel
theorem dX7_ask_36 : decode cX7_ask 36 = .ok (.aaload, 1) := by decide +kernel
theorem dX7_ask_37 : decode cX7_ask 37 = .ok (.astore_n 3, 1) := by decide +kernel
theorem dX7_ask_38 : decode cX7_ask 38 = .ok (.iload_n 2, 1) := by decide +kernel
theorem dX7_ask_39 : decode cX7_ask 39 = .ok (.ifCond .ne 15, 3) := by decide +kernel
theorem dX7_ask_42 : decode cX7_ask 42 = .ok (.aload_n 0, 1) := by decide +kernel
theorem dX7_ask_43 : decode cX7_ask 43 = .ok (.getfield 77, 3) := by decide +kernel
theorem dX7_ask_46 : decode cX7_ask 46 = .ok (.aload_n 3, 1) := by decide +kernel
theorem dX7_ask_47 : decode cX7_ask 47 = .ok (.iload_n 1, 1) := by decide +kernel
theorem dX7_ask_48 : decode cX7_ask 48 = .ok (.invokevirtual 252, 3) := by decide +kernel
theorem dX7_ask_51 : decode cX7_ask 51 = .ok (.goto 12, 3) := by decide +kernel
theorem dX7_ask_54 : decode cX7_ask 54 = .ok (.aload_n 0, 1) := by decide +kernel
theorem dX7_ask_55 : decode cX7_ask 55 = .ok (.getfield 77, 3) := by decide +kernel
theorem dX7_ask_58 : decode cX7_ask 58 = .ok (.aload_n 3, 1) := by decide +kernel
theorem dX7_ask_59 : decode cX7_ask 59 = .ok (.iload_n 1, 1) := by decide +kernel
theorem dX7_ask_60 : decode cX7_ask 60 = .ok (.invokevirtual 255, 3) := by decide +kernel
theorem dX7_ask_63 : decode cX7_ask 63 = .ok (.ireturn, 1) := by decide +kernel
theorem dX7_trace_0 : decode cX7_trace 0 = .ok (.iload_n 1, 1) := by decide +kernel
theorem dX7_trace_1 : decode cX7_trace 1 = .ok (.iconst 0, 1) := by decide +kernel
theorem dX7_trace_2 : decode cX7_trace 2 = .ok (.aload_n 0, 1) := by decide +kernel
theorem dX7_trace_3 : decode cX7_trace 3 = .ok (.getfield 77, 3) := by decide +kernel
theorem dX7_trace_6 : decode cX7_trace 6 = .ok (.getfield 249, 3) := by decide +kernel
theorem dX7_trace_9 : decode cX7_trace 9 = .ok (.iconst 1, 1) := by decide +kernel
theorem dX7_trace_10 : decode cX7_trace 10 = .ok (.isub, 1) := by decide +kernel
theorem dX7_trace_11 : decode cX7_trace 11 = .ok (.invokestatic 85, 3) := by decide +kernel
theorem dX7_trace_14 : decode cX7_trace 14 = .ok (.ifCond .eq 8, 3) := by decide +kernel
theorem dX7_trace_17 : decode cX7_trace 17 = .ok (.ldc 215, 2) := by decide +kernel
theorem dX7_trace_19 : decode cX7_trace 19 = .ok (.goto 12, 3) := by decide +kernel
theorem dX7_trace_22 : decode cX7_trace 22 = .ok (.aload_n 0, 1) := by decide +kernel
theorem dX7_trace_23 : decode cX7_trace 23 = .ok (.getfield 77, 3) := by decide +kernel
theorem dX7_trace_26 : decode cX7_trace 26 = .ok (.getfield 258, 3) := by decide +kernel
theorem dX7_trace_29 : decode cX7_trace 29 = .ok (.iload_n 1, 1) := by decide +kernel
theorem dX7_trace_30 : decode cX7_trace 30 = .ok (.iaload, 1) := by decide +kernel
theorem dX7_trace_31 : decode cX7_trace 31 = .ok (.ireturn, 1) := by decide +kernel
theorem dX7_count_0 : decode cX7_count 0 = .ok (.iload_n 1, 1) := by decide +kernel
theorem dX7_count_1 : decode cX7_count 1 = .ok (.tableswitch 96 0 6 #[43, 48, 56, 64, 72, 80, 88], 43) := by decide +kernel
theorem dX7_count_44 : decode cX7_count 44 = .ok (.aload_n 0, 1) := by decide +kernel
theorem dX7_count_45 : decode cX7_count 45 = .ok (.invokevirtual 261, 3) := by decide +kernel
theorem dX7_count_48 : decode cX7_count 48 = .ok (.ireturn, 1) := by decide +kernel
theorem dX7_count_49 : decode cX7_count 49 = .ok (.aload_n 0, 1) := by decide +kernel
theorem dX7_count_50 : decode cX7_count 50 = .ok (.getfield 42, 3) := by decide +kernel
theorem dX7_count_53 : decode cX7_count 53 = .ok (.getfield 138, 3) := by decide +kernel
theorem dX7_count_56 : decode cX7_count 56 = .ok (.ireturn, 1) := by decide +kernel
theorem dX7_count_57 : decode cX7_count 57 = .ok (.aload_n 0, 1) := by decide +kernel
theorem dX7_count_58 : decode cX7_count 58 = .ok (.getfield 42, 3) := by decide +kernel
theorem dX7_count_61 : decode cX7_count 61 = .ok (.getfield 264, 3) := by decide +kernel
theorem dX7_count_64 : decode cX7_count 64 = .ok (.ireturn, 1) := by decide +kernel
theorem dX7_count_65 : decode cX7_count 65 = .ok (.aload_n 0, 1) := by decide +kernel
theorem dX7_count_66 : decode cX7_count 66 = .ok (.getfield 42, 3) := by decide +kernel
theorem dX7_count_69 : decode cX7_count 69 = .ok (.getfield 236, 3) := by decide +kernel
theorem dX7_count_72 : decode cX7_count 72 = .ok (.ireturn, 1) := by decide +kernel
theorem dX7_count_73 : decode cX7_count 73 = .ok (.aload_n 0, 1) := by decide +kernel
theorem dX7_count_74 : decode cX7_count 74 = .ok (.getfield 60, 3) := by decide +kernel
theorem dX7_count_77 : decode cX7_count 77 = .ok (.getfield 187, 3) := by decide +kernel
theorem dX7_count_80 : decode cX7_count 80 = .ok (.ireturn, 1) := by decide +kernel
theorem dX7_count_81 : decode cX7_count 81 = .ok (.aload_n 0, 1) := by decide +kernel
theorem dX7_count_82 : decode cX7_count 82 = .ok (.getfield 42, 3) := by decide +kernel
theorem dX7_count_85 : decode cX7_count 85 = .ok (.getfield 178, 3) := by decide +kernel
theorem dX7_count_88 : decode cX7_count 88 = .ok (.ireturn, 1) := by decide +kernel
theorem dX7_count_89 : decode cX7_count 89 = .ok (.aload_n 0, 1) := by decide +kernel
theorem dX7_count_90 : decode cX7_count 90 = .ok (.getfield 28, 3) := by decide +kernel
theorem dX7_count_93 : decode cX7_count 93 = .ok (.getfield 113, 3) := by decide +kernel
theorem dX7_count_96 : decode cX7_count 96 = .ok (.ireturn, 1) := by decide +kernel
theorem dX7_count_97 : decode cX7_count 97 = .ok (.ldc 89, 2) := by decide +kernel
theorem dX7_count_99 : decode cX7_count 99 = .ok (.ireturn, 1) := by decide +kernel
theorem dX7_status_0 : decode cX7_status 0 = .ok (.aload_n 0, 1) := by decide +kernel
theorem dX7_status_1 : decode cX7_status 1 = .ok (.getfield 21, 3) := by decide +kernel
theorem dX7_status_4 : decode cX7_status 4 = .ok (.ireturn, 1) := by decide +kernel
theorem dX7_found_0 : decode cX7_found 0 = .ok (.aload_n 0, 1) := by decide +kernel
theorem dX7_found_1 : decode cX7_found 1 = .ok (.iload_n 1, 1) := by decide +kernel
theorem dX7_found_2 : decode cX7_found 2 = .ok (.putfield 21, 3) := by decide +kernel
theorem dX7_found_5 : decode cX7_found 5 = .ok (.ldc_w 267, 3) := by decide +kernel
theorem dX7_found_8 : decode cX7_found 8 = .ok (.iload_n 1, 1) := by decide +kernel
theorem dX7_found_9 : decode cX7_found 9 = .ok (.isub, 1) := by decide +kernel
theorem dX7_found_10 : decode cX7_found 10 = .ok (.ireturn, 1) := by decide +kernel
theorem dX7_foundNothing_0 : decode cX7_foundNothing 0 = .ok (.aload_n 0, 1) := by decide +kernel
theorem dX7_foundNothing_1 : decode cX7_foundNothing 1 = .ok (.iconst 0, 1) := by decide +kernel
theorem dX7_foundNothing_2 : decode cX7_foundNothing 2 = .ok (.putfield 21, 3) := by decide +kernel
theorem dX7_foundNothing_5 : decode cX7_foundNothing 5 = .ok (.iload_n 1, 1) := by decide +kernel
theorem dX7_foundNothing_6 : decode cX7_foundNothing 6 = .ok (.ireturn, 1) := by decide +kernel
theorem dX7_isOutside_0 : decode cX7_isOutside 0 = .ok (.iload_n 0, 1) := by decide +kernel
theorem dX7_isOutside_1 : decode cX7_isOutside 1 = .ok (.iload_n 1, 1) := by decide +kernel
theorem dX7_isOutside_2 : decode cX7_isOutside 2 = .ok (.if_icmp .lt 8, 3) := by decide +kernel
theorem dX7_isOutside_5 : decode cX7_isOutside 5 = .ok (.iload_n 0, 1) := by decide +kernel
theorem dX7_isOutside_6 : decode cX7_isOutside 6 = .ok (.iload_n 2, 1) := by decide +kernel
theorem dX7_isOutside_7 : decode cX7_isOutside 7 = .ok (.if_icmp .le 7, 3) := by decide +kernel
theorem dX7_isOutside_10 : decode cX7_isOutside 10 = .ok (.iconst 1, 1) := by decide +kernel
theorem dX7_isOutside_11 : decode cX7_isOutside 11 = .ok (.goto 4, 3) := by decide +kernel
theorem dX7_isOutside_14 : decode cX7_isOutside 14 = .ok (.iconst 0, 1) := by decide +kernel
theorem dX7_isOutside_15 : decode cX7_isOutside 15 = .ok (.ireturn, 1) := by decide +kernel
theorem dX7_isNoRow_0 : decode cX7_isNoRow 0 = .ok (.iload_n 0, 1) := by decide +kernel
theorem dX7_isNoRow_1 : decode cX7_isNoRow 1 = .ok (.iconst 0, 1) := by decide +kernel
theorem dX7_isNoRow_2 : decode cX7_isNoRow 2 = .ok (.bipush 7, 2) := by decide +kernel
theorem dX7_isNoRow_4 : decode cX7_isNoRow 4 = .ok (.invokestatic 85, 3) := by decide +kernel
theorem dX7_isNoRow_7 : decode cX7_isNoRow 7 = .ok (.ireturn, 1) := by decide +kernel
theorem dX7_isMissing_0 : decode cX7_isMissing 0 = .ok (.aload_n 0, 1) := by decide +kernel
theorem dX7_isMissing_1 : decode cX7_isMissing 1 = .ok (.getfield 18, 3) := by decide +kernel
theorem dX7_isMissing_4 : decode cX7_isMissing 4 = .ok (.iload_n 1, 1) := by decide +kernel
theorem dX7_isMissing_5 : decode cX7_isMissing 5 = .ok (.iaload, 1) := by decide +kernel
theorem dX7_isMissing_6 : decode cX7_isMissing 6 = .ok (.iconst (-1), 1) := by decide +kernel
theorem dX7_isMissing_7 : decode cX7_isMissing 7 = .ok (.if_icmp .ne 7, 3) := by decide +kernel
theorem dX7_isMissing_10 : decode cX7_isMissing 10 = .ok (.iconst 1, 1) := by decide +kernel
theorem dX7_isMissing_11 : decode cX7_isMissing 11 = .ok (.goto 4, 3) := by decide +kernel
theorem dX7_isMissing_14 : decode cX7_isMissing 14 = .ok (.iconst 0, 1) := by decide +kernel
theorem dX7_isMissing_15 : decode cX7_isMissing 15 = .ok (.ireturn, 1) := by decide +kernel
theorem dX7_isBeyond_0 : decode cX7_isBeyond 0 = .ok (.iload_n 2, 1) := by decide +kernel
theorem dX7_isBeyond_1 : decode cX7_isBeyond 1 = .ok (.ifCond .lt 23, 3) := by decide +kernel
theorem dX7_isBeyond_4 : decode cX7_isBeyond 4 = .ok (.iload_n 3, 1) := by decide +kernel
theorem dX7_isBeyond_5 : decode cX7_isBeyond 5 = .ok (.ifCond .lt 19, 3) := by decide +kernel
theorem dX7_isBeyond_8 : decode cX7_isBeyond 8 = .ok (.iload_n 2, 1) := by decide +kernel
theorem dX7_isBeyond_9 : decode cX7_isBeyond 9 = .ok (.i2l, 1) := by decide +kernel
theorem dX7_isBeyond_10 : decode cX7_isBeyond 10 = .ok (.iload_n 3, 1) := by decide +kernel
theorem dX7_isBeyond_11 : decode cX7_isBeyond 11 = .ok (.i2l, 1) := by decide +kernel
theorem dX7_isBeyond_12 : decode cX7_isBeyond 12 = .ok (.ladd, 1) := by decide +kernel
theorem dX7_isBeyond_13 : decode cX7_isBeyond 13 = .ok (.aload_n 0, 1) := by decide +kernel
theorem dX7_isBeyond_14 : decode cX7_isBeyond 14 = .ok (.getfield 18, 3) := by decide +kernel
theorem dX7_isBeyond_17 : decode cX7_isBeyond 17 = .ok (.iload_n 1, 1) := by decide +kernel
theorem dX7_isBeyond_18 : decode cX7_isBeyond 18 = .ok (.iaload, 1) := by decide +kernel
theorem dX7_isBeyond_19 : decode cX7_isBeyond 19 = .ok (.i2l, 1) := by decide +kernel
theorem dX7_isBeyond_20 : decode cX7_isBeyond 20 = .ok (.lcmp, 1) := by decide +kernel
theorem dX7_isBeyond_21 : decode cX7_isBeyond 21 = .ok (.ifCond .le 7, 3) := by decide +kernel
theorem dX7_isBeyond_24 : decode cX7_isBeyond 24 = .ok (.iconst 1, 1) := by decide +kernel
theorem dX7_isBeyond_25 : decode cX7_isBeyond 25 = .ok (.goto 4, 3) := by decide +kernel
theorem dX7_isBeyond_28 : decode cX7_isBeyond 28 = .ok (.iconst 0, 1) := by decide +kernel
theorem dX7_isBeyond_29 : decode cX7_isBeyond 29 = .ok (.ireturn, 1) := by decide +kernel
theorem dX7_lowestBits_0 : decode cX7_lowestBits 0 = .ok (.iload_n 0, 1) := by decide +kernel
theorem dX7_lowestBits_1 : decode cX7_lowestBits 1 = .ok (.ifCond .ne 6, 3) := by decide +kernel
theorem dX7_lowestBits_4 : decode cX7_lowestBits 4 = .ok (.iload_n 1, 1) := by decide +kernel
theorem dX7_lowestBits_5 : decode cX7_lowestBits 5 = .ok (.i2b, 1) := by decide +kernel
theorem dX7_lowestBits_6 : decode cX7_lowestBits 6 = .ok (.ireturn, 1) := by decide +kernel
theorem dX7_lowestBits_7 : decode cX7_lowestBits 7 = .ok (.iload_n 0, 1) := by decide +kernel
theorem dX7_lowestBits_8 : decode cX7_lowestBits 8 = .ok (.iconst 1, 1) := by decide +kernel
theorem dX7_lowestBits_9 : decode cX7_lowestBits 9 = .ok (.if_icmp .ne 8, 3) := by decide +kernel
theorem dX7_lowestBits_12 : decode cX7_lowestBits 12 = .ok (.iload_n 1, 1) := by decide +kernel
theorem dX7_lowestBits_13 : decode cX7_lowestBits 13 = .ok (.i2s, 1) := by decide +kernel
theorem dX7_lowestBits_14 : decode cX7_lowestBits 14 = .ok (.goto 4, 3) := by decide +kernel
theorem dX7_lowestBits_17 : decode cX7_lowestBits 17 = .ok (.iload_n 1, 1) := by decide +kernel
theorem dX7_lowestBits_18 : decode cX7_lowestBits 18 = .ok (.ireturn, 1) := by decide +kernel
theorem dX7_rowsThere_0 : decode cX7_rowsThere 0 = .ok (.iconst 0, 1) := by decide +kernel
theorem dX7_rowsThere_1 : decode cX7_rowsThere 1 = .ok (.istore_n 1, 1) := by decide +kernel
theorem dX7_rowsThere_2 : decode cX7_rowsThere 2 = .ok (.iconst 0, 1) := by decide +kernel
theorem dX7_rowsThere_3 : decode cX7_rowsThere 3 = .ok (.istore_n 2, 1) := by decide +kernel
theorem dX7_rowsThere_4 : decode cX7_rowsThere 4 = .ok (.iload_n 2, 1) := by decide +kernel
theorem dX7_rowsThere_5 : decode cX7_rowsThere 5 = .ok (.bipush 8, 2) := by decide +kernel
theorem dX7_rowsThere_7 : decode cX7_rowsThere 7 = .ok (.if_icmp .ge 20, 3) := by decide +kernel
theorem dX7_rowsThere_10 : decode cX7_rowsThere 10 = .ok (.aload_n 0, 1) := by decide +kernel
theorem dX7_rowsThere_11 : decode cX7_rowsThere 11 = .ok (.iload_n 2, 1) := by decide +kernel
theorem dX7_rowsThere_12 : decode cX7_rowsThere 12 = .ok (.invokevirtual 97, 3) := by decide +kernel
theorem dX7_rowsThere_15 : decode cX7_rowsThere 15 = .ok (.ifCond .ne 6, 3) := by decide +kernel
theorem dX7_rowsThere_18 : decode cX7_rowsThere 18 = .ok (.iinc 1 1, 3) := by decide +kernel
theorem dX7_rowsThere_21 : decode cX7_rowsThere 21 = .ok (.iinc 2 1, 3) := by decide +kernel
theorem dX7_rowsThere_24 : decode cX7_rowsThere 24 = .ok (.goto (-20), 3) := by decide +kernel
theorem dX7_rowsThere_27 : decode cX7_rowsThere 27 = .ok (.iload_n 1, 1) := by decide +kernel
theorem dX7_rowsThere_28 : decode cX7_rowsThere 28 = .ok (.ireturn, 1) := by decide +kernel
theorem dX7_isNobody_0 : decode cX7_isNobody 0 = .ok (.iload_n 1, 1) := by decide +kernel
theorem dX7_isNobody_1 : decode cX7_isNobody 1 = .ok (.iconst 0, 1) := by decide +kernel
theorem dX7_isNobody_2 : decode cX7_isNobody 2 = .ok (.aload_n 0, 1) := by decide +kernel
theorem dX7_isNobody_3 : decode cX7_isNobody 3 = .ok (.getfield 42, 3) := by decide +kernel
theorem dX7_isNobody_6 : decode cX7_isNobody 6 = .ok (.getfield 138, 3) := by decide +kernel
theorem dX7_isNobody_9 : decode cX7_isNobody 9 = .ok (.iconst 1, 1) := by decide +kernel
theorem dX7_isNobody_10 : decode cX7_isNobody 10 = .ok (.isub, 1) := by decide +kernel
theorem dX7_isNobody_11 : decode cX7_isNobody 11 = .ok (.invokestatic 85, 3) := by decide +kernel
theorem dX7_isNobody_14 : decode cX7_isNobody 14 = .ok (.ireturn, 1) := by decide +kernel
theorem dX7_isNoWay_0 : decode cX7_isNoWay 0 = .ok (.iload_n 1, 1) := by decide +kernel
theorem dX7_isNoWay_1 : decode cX7_isNoWay 1 = .ok (.iconst 0, 1) := by decide +kernel
theorem dX7_isNoWay_2 : decode cX7_isNoWay 2 = .ok (.aload_n 0, 1) := by decide +kernel
theorem dX7_isNoWay_3 : decode cX7_isNoWay 3 = .ok (.getfield 42, 3) := by decide +kernel
theorem dX7_isNoWay_6 : decode cX7_isNoWay 6 = .ok (.getfield 264, 3) := by decide +kernel
theorem dX7_isNoWay_9 : decode cX7_isNoWay 9 = .ok (.iconst 1, 1) := by decide +kernel
theorem dX7_isNoWay_10 : decode cX7_isNoWay 10 = .ok (.isub, 1) := by decide +kernel
theorem dX7_isNoWay_11 : decode cX7_isNoWay 11 = .ok (.invokestatic 85, 3) := by decide +kernel
theorem dX7_isNoWay_14 : decode cX7_isNoWay 14 = .ok (.ireturn, 1) := by decide +kernel
theorem dX7_isNoHarbour_0 : decode cX7_isNoHarbour 0 = .ok (.iload_n 1, 1) := by decide +kernel
theorem dX7_isNoHarbour_1 : decode cX7_isNoHarbour 1 = .ok (.iconst 0, 1) := by decide +kernel
theorem dX7_isNoHarbour_2 : decode cX7_isNoHarbour 2 = .ok (.aload_n 0, 1) := by decide +kernel
theorem dX7_isNoHarbour_3 : decode cX7_isNoHarbour 3 = .ok (.getfield 42, 3) := by decide +kernel
theorem dX7_isNoHarbour_6 : decode cX7_isNoHarbour 6 = .ok (.getfield 236, 3) := by decide +kernel
theorem dX7_isNoHarbour_9 : decode cX7_isNoHarbour 9 = .ok (.iconst 1, 1) := by decide +kernel
theorem dX7_isNoHarbour_10 : decode cX7_isNoHarbour 10 = .ok (.isub, 1) := by decide +kernel
theorem dX7_isNoHarbour_11 : decode cX7_isNoHarbour 11 = .ok (.invokestatic 85, 3) := by decide +kernel
theorem dX7_isNoHarbour_14 : decode cX7_isNoHarbour 14 = .ok (.ireturn, 1) := by decide +kernel
theorem dX7_sailOnce_0 : decode cX7_sailOnce 0 = .ok (.aload_n 0, 1) := by decide +kernel
theorem dX7_sailOnce_1 : decode cX7_sailOnce 1 = .ok (.getfield 42, 3) := by decide +kernel
theorem dX7_sailOnce_4 : decode cX7_sailOnce 4 = .ok (.getfield 150, 3) := by decide +kernel
theorem dX7_sailOnce_7 : decode cX7_sailOnce 7 = .ok (.iload_n 1, 1) := by decide +kernel
theorem dX7_sailOnce_8 : decode cX7_sailOnce 8 = .ok (.aaload, 1) := by decide +kernel
theorem dX7_sailOnce_9 : decode cX7_sailOnce 9 = .ok (.astore_n 3, 1) := by decide +kernel
theorem dX7_sailOnce_10 : decode cX7_sailOnce 10 = .ok (.aload_n 0, 1) := by decide +kernel
theorem dX7_sailOnce_11 : decode cX7_sailOnce 11 = .ok (.getfield 42, 3) := by decide +kernel
theorem dX7_sailOnce_14 : decode cX7_sailOnce 14 = .ok (.getfield 268, 3) := by decide +kernel
theorem dX7_sailOnce_17 : decode cX7_sailOnce 17 = .ok (.iload_n 2, 1) := by decide +kernel
theorem dX7_sailOnce_18 : decode cX7_sailOnce 18 = .ok (.aaload, 1) := by decide +kernel
theorem dX7_sailOnce_19 : decode cX7_sailOnce 19 = .ok (.astore 4, 2) := by decide +kernel
theorem dX7_sailOnce_21 : decode cX7_sailOnce 21 = .ok (.aload 4, 2) := by decide +kernel
theorem dX7_sailOnce_23 : decode cX7_sailOnce 23 = .ok (.aload_n 3, 1) := by decide +kernel
theorem dX7_sailOnce_24 : decode cX7_sailOnce 24 = .ok (.getfield 154, 3) := by decide +kernel
theorem dX7_sailOnce_27 : decode cX7_sailOnce 27 = .ok (.invokevirtual 272, 3) := by decide +kernel
theorem dX7_sailOnce_30 : decode cX7_sailOnce 30 = .ok (.ifCond .eq 12, 3) := by decide +kernel
theorem dX7_sailOnce_33 : decode cX7_sailOnce 33 = .ok (.aload_n 3, 1) := by decide +kernel
theorem dX7_sailOnce_34 : decode cX7_sailOnce 34 = .ok (.aload 4, 2) := by decide +kernel
theorem dX7_sailOnce_36 : decode cX7_sailOnce 36 = .ok (.invokevirtual 277, 3) := by decide +kernel
theorem dX7_sailOnce_39 : decode cX7_sailOnce 39 = .ok (.ifCond .ne 6, 3) := by decide +kernel
theorem dX7_sailOnce_42 : decode cX7_sailOnce 42 = .ok (.ldc 172, 2) := by decide +kernel
theorem dX7_sailOnce_44 : decode cX7_sailOnce 44 = .ok (.ireturn, 1) := by decide +kernel
theorem dX7_sailOnce_45 : decode cX7_sailOnce 45 = .ok (.aload_n 3, 1) := by decide +kernel
theorem dX7_sailOnce_46 : decode cX7_sailOnce 46 = .ok (.getfield 159, 3) := by decide +kernel
theorem dX7_sailOnce_49 : decode cX7_sailOnce 49 = .ok (.aload 4, 2) := by decide +kernel
theorem dX7_sailOnce_51 : decode cX7_sailOnce 51 = .ok (.getfield 281, 3) := by decide +kernel
theorem dX7_sailOnce_54 : decode cX7_sailOnce 54 = .ok (.iadd, 1) := by decide +kernel
theorem dX7_sailOnce_55 : decode cX7_sailOnce 55 = .ok (.sipush 200, 3) := by decide +kernel
theorem dX7_sailOnce_58 : decode cX7_sailOnce 58 = .ok (.if_icmp .le 6, 3) := by decide +kernel
theorem dX7_sailOnce_61 : decode cX7_sailOnce 61 = .ok (.ldc 116, 2) := by decide +kernel
theorem dX7_sailOnce_63 : decode cX7_sailOnce 63 = .ok (.ireturn, 1) := by decide +kernel
theorem dX7_sailOnce_64 : decode cX7_sailOnce 64 = .ok (.aload_n 0, 1) := by decide +kernel
theorem dX7_sailOnce_65 : decode cX7_sailOnce 65 = .ok (.getfield 60, 3) := by decide +kernel
theorem dX7_sailOnce_68 : decode cX7_sailOnce 68 = .ok (.aload_n 0, 1) := by decide +kernel
theorem dX7_sailOnce_69 : decode cX7_sailOnce 69 = .ok (.getfield 42, 3) := by decide +kernel
theorem dX7_sailOnce_72 : decode cX7_sailOnce 72 = .ok (.invokevirtual 162, 3) := by decide +kernel
theorem dX7_sailOnce_75 : decode cX7_sailOnce 75 = .ok (.aload_n 3, 1) := by decide +kernel
theorem dX7_sailOnce_76 : decode cX7_sailOnce 76 = .ok (.aload 4, 2) := by decide +kernel
theorem dX7_sailOnce_78 : decode cX7_sailOnce 78 = .ok (.invokevirtual 284, 3) := by decide +kernel
theorem dX7_sailOnce_81 : decode cX7_sailOnce 81 = .ok (.iconst 0, 1) := by decide +kernel
theorem dX7_sailOnce_82 : decode cX7_sailOnce 82 = .ok (.ireturn, 1) := by decide +kernel
theorem dX7_haveGainsApart_0 : decode cX7_haveGainsApart 0 = .ok (.iload 4, 2) := by decide +kernel
theorem dX7_haveGainsApart_2 : decode cX7_haveGainsApart 2 = .ok (.bipush (-40), 2) := by decide +kernel
theorem dX7_haveGainsApart_4 : decode cX7_haveGainsApart 4 = .ok (.bipush 40, 2) := by decide +kernel
theorem dX7_haveGainsApart_6 : decode cX7_haveGainsApart 6 = .ok (.invokestatic 85, 3) := by decide +kernel
theorem dX7_haveGainsApart_9 : decode cX7_haveGainsApart 9 = .ok (.ifCond .eq 5, 3) := by decide +kernel
theorem dX7_haveGainsApart_12 : decode cX7_haveGainsApart 12 = .ok (.iconst 0, 1) := by decide +kernel
theorem dX7_haveGainsApart_13 : decode cX7_haveGainsApart 13 = .ok (.ireturn, 1) := by decide +kernel
theorem dX7_haveGainsApart_14 : decode cX7_haveGainsApart 14 = .ok (.iload 4, 2) := by decide +kernel
theorem dX7_haveGainsApart_16 : decode cX7_haveGainsApart 16 = .ok (.ifCond .lt 12, 3) := by decide +kernel
theorem dX7_haveGainsApart_19 : decode cX7_haveGainsApart 19 = .ok (.lload_n 0, 1) := by decide +kernel
theorem dX7_haveGainsApart_20 : decode cX7_haveGainsApart 20 = .ok (.iload 4, 2) := by decide +kernel
theorem dX7_haveGainsApart_22 : decode cX7_haveGainsApart 22 = .ok (.lushr, 1) := by decide +kernel
theorem dX7_haveGainsApart_23 : decode cX7_haveGainsApart 23 = .ok (.lload_n 2, 1) := by decide +kernel
theorem dX7_haveGainsApart_24 : decode cX7_haveGainsApart 24 = .ok (.land, 1) := by decide +kernel
theorem dX7_haveGainsApart_25 : decode cX7_haveGainsApart 25 = .ok (.goto 10, 3) := by decide +kernel
theorem dX7_haveGainsApart_28 : decode cX7_haveGainsApart 28 = .ok (.lload_n 2, 1) := by decide +kernel
theorem dX7_haveGainsApart_29 : decode cX7_haveGainsApart 29 = .ok (.iload 4, 2) := by decide +kernel
theorem dX7_haveGainsApart_31 : decode cX7_haveGainsApart 31 = .ok (.ineg, 1) := by decide +kernel
theorem dX7_haveGainsApart_32 : decode cX7_haveGainsApart 32 = .ok (.lushr, 1) := by decide +kernel
theorem dX7_haveGainsApart_33 : decode cX7_haveGainsApart 33 = .ok (.lload_n 0, 1) := by decide +kernel
theorem dX7_haveGainsApart_34 : decode cX7_haveGainsApart 34 = .ok (.land, 1) := by decide +kernel
theorem dX7_haveGainsApart_35 : decode cX7_haveGainsApart 35 = .ok (.lstore 5, 2) := by decide +kernel
theorem dX7_haveGainsApart_37 : decode cX7_haveGainsApart 37 = .ok (.lload 5, 2) := by decide +kernel
theorem dX7_haveGainsApart_39 : decode cX7_haveGainsApart 39 = .ok (.lconst 0, 1) := by decide +kernel
theorem dX7_haveGainsApart_40 : decode cX7_haveGainsApart 40 = .ok (.lcmp, 1) := by decide +kernel
theorem dX7_haveGainsApart_41 : decode cX7_haveGainsApart 41 = .ok (.ifCond .eq 7, 3) := by decide +kernel
theorem dX7_haveGainsApart_44 : decode cX7_haveGainsApart 44 = .ok (.iconst 1, 1) := by decide +kernel
theorem dX7_haveGainsApart_45 : decode cX7_haveGainsApart 45 = .ok (.goto 4, 3) := by decide +kernel
theorem dX7_haveGainsApart_48 : decode cX7_haveGainsApart 48 = .ok (.iconst 0, 1) := by decide +kernel
theorem dX7_haveGainsApart_49 : decode cX7_haveGainsApart 49 = .ok (.ireturn, 1) := by decide +kernel
theorem dX7_isOfKind_0 : decode cX7_isOfKind 0 = .ok (.iload_n 1, 1) := by decide +kernel
theorem dX7_isOfKind_1 : decode cX7_isOfKind 1 = .ok (.ifCond .eq 16, 3) := by decide +kernel
theorem dX7_isOfKind_4 : decode cX7_isOfKind 4 = .ok (.iload_n 1, 1) := by decide +kernel
theorem dX7_isOfKind_5 : decode cX7_isOfKind 5 = .ok (.iload_n 0, 1) := by decide +kernel
theorem dX7_isOfKind_6 : decode cX7_isOfKind 6 = .ok (.if_icmp .eq 11, 3) := by decide +kernel
theorem dX7_isOfKind_9 : decode cX7_isOfKind 9 = .ok (.iload_n 1, 1) := by decide +kernel
theorem dX7_isOfKind_10 : decode cX7_isOfKind 10 = .ok (.iload_n 0, 1) := by decide +kernel
theorem dX7_isOfKind_11 : decode cX7_isOfKind 11 = .ok (.invokestatic 288, 3) := by decide +kernel
theorem dX7_isOfKind_14 : decode cX7_isOfKind 14 = .ok (.if_icmp .ne 7, 3) := by decide +kernel
theorem dX7_isOfKind_17 : decode cX7_isOfKind 17 = .ok (.iconst 1, 1) := by decide +kernel
theorem dX7_isOfKind_18 : decode cX7_isOfKind 18 = .ok (.goto 4, 3) := by decide +kernel
theorem dX7_isOfKind_21 : decode cX7_isOfKind 21 = .ok (.iconst 0, 1) := by decide +kernel
theorem dX7_isOfKind_22 : decode cX7_isOfKind 22 = .ok (.ireturn, 1) := by decide +kernel
theorem dX7_nearestKind_0 : decode cX7_nearestKind 0 = .ok (.iload_n 0, 1) := by decide +kernel
theorem dX7_nearestKind_1 : decode cX7_nearestKind 1 = .ok (.tableswitch 35 2 5 #[31, 31, 35, 33], 31) := by decide +kernel
theorem dX7_nearestKind_32 : decode cX7_nearestKind 32 = .ok (.iconst 1, 1) := by decide +kernel
theorem dX7_nearestKind_33 : decode cX7_nearestKind 33 = .ok (.ireturn, 1) := by decide +kernel
theorem dX7_nearestKind_34 : decode cX7_nearestKind 34 = .ok (.iconst 4, 1) := by decide +kernel
theorem dX7_nearestKind_35 : decode cX7_nearestKind 35 = .ok (.ireturn, 1) := by decide +kernel
theorem dX7_nearestKind_36 : decode cX7_nearestKind 36 = .ok (.iconst 0, 1) := by decide +kernel
theorem dX7_nearestKind_37 : decode cX7_nearestKind 37 = .ok (.ireturn, 1) := by decide +kernel
theorem dX8_init_0 : decode cX8_init 0 = .ok (.aload_n 0, 1) := by decide +kernel
theorem dX8_init_1 : decode cX8_init 1 = .ok (.invokespecial 1, 3) := by decide +kernel
theorem dX8_init_4 : decode cX8_init 4 = .ok (.aload_n 0, 1) := by decide +kernel
theorem dX8_init_5 : decode cX8_init 5 = .ok (.bipush 8, 2) := by decide +kernel
theorem dX8_init_7 : decode cX8_init 7 = .ok (.newarray .int, 2) := by decide +kernel
theorem dX8_init_9 : decode cX8_init 9 = .ok (.dup, 1) := by decide +kernel
theorem dX8_init_10 : decode cX8_init 10 = .ok (.iconst 0, 1) := by decide +kernel
theorem dX8_init_11 : decode cX8_init 11 = .ok (.iconst (-1), 1) := by decide +kernel
theorem dX8_init_12 : decode cX8_init 12 = .ok (.iastore, 1) := by decide +kernel
theorem dX8_init_13 : decode cX8_init 13 = .ok (.dup, 1) := by decide +kernel
theorem dX8_init_14 : decode cX8_init 14 = .ok (.iconst 1, 1) := by decide +kernel
theorem dX8_init_15 : decode cX8_init 15 = .ok (.iconst (-1), 1) := by decide +kernel
theorem dX8_init_16 : decode cX8_init 16 = .ok (.iastore, 1) := by decide +kernel
theorem dX8_init_17 : decode cX8_init 17 = .ok (.dup, 1) := by decide +kernel
theorem dX8_init_18 : decode cX8_init 18 = .ok (.iconst 2, 1) := by decide +kernel
theorem dX8_init_19 : decode cX8_init 19 = .ok (.iconst (-1), 1) := by decide +kernel
theorem dX8_init_20 : decode cX8_init 20 = .ok (.iastore, 1) := by decide +kernel
theorem dX8_init_21 : decode cX8_init 21 = .ok (.dup, 1) := by decide +kernel
theorem dX8_init_22 : decode cX8_init 22 = .ok (.iconst 3, 1) := by decide +kernel
theorem dX8_init_23 : decode cX8_init 23 = .ok (.iconst (-1), 1) := by decide +kernel
theorem dX8_init_24 : decode cX8_init 24 = .ok (.iastore, 1) := by decide +kernel
theorem dX8_init_25 : decode cX8_init 25 = .ok (.dup, 1) := by decide +kernel
theorem dX8_init_26 : decode cX8_init 26 = .ok (.iconst 4, 1) := by decide +kernel
theorem dX8_init_27 : decode cX8_init 27 = .ok (.iconst (-1), 1) := by decide +kernel
theorem dX8_init_28 : decode cX8_init 28 = .ok (.iastore, 1) := by decide +kernel
theorem dX8_init_29 : decode cX8_init 29 = .ok (.dup, 1) := by decide +kernel
theorem dX8_init_30 : decode cX8_init 30 = .ok (.iconst 5, 1) := by decide +kernel
theorem dX8_init_31 : decode cX8_init 31 = .ok (.iconst (-1), 1) := by decide +kernel
theorem dX8_init_32 : decode cX8_init 32 = .ok (.iastore, 1) := by decide +kernel
theorem dX8_init_33 : decode cX8_init 33 = .ok (.dup, 1) := by decide +kernel
theorem dX8_init_34 : decode cX8_init 34 = .ok (.bipush 6, 2) := by decide +kernel
theorem dX8_init_36 : decode cX8_init 36 = .ok (.iconst (-1), 1) := by decide +kernel
theorem dX8_init_37 : decode cX8_init 37 = .ok (.iastore, 1) := by decide +kernel
theorem dX8_init_38 : decode cX8_init 38 = .ok (.dup, 1) := by decide +kernel
theorem dX8_init_39 : decode cX8_init 39 = .ok (.bipush 7, 2) := by decide +kernel
theorem dX8_init_41 : decode cX8_init 41 = .ok (.iconst (-1), 1) := by decide +kernel
theorem dX8_init_42 : decode cX8_init 42 = .ok (.iastore, 1) := by decide +kernel
theorem dX8_init_43 : decode cX8_init 43 = .ok (.putfield 7, 3) := by decide +kernel
theorem dX8_init_46 : decode cX8_init 46 = .ok (.aload_n 0, 1) := by decide +kernel
theorem dX8_init_47 : decode cX8_init 47 = .ok (.bipush 8, 2) := by decide +kernel
theorem dX8_init_49 : decode cX8_init 49 = .ok (.newarray .int, 2) := by decide +kernel
theorem dX8_init_51 : decode cX8_init 51 = .ok (.putfield 13, 3) := by decide +kernel
theorem dX8_init_54 : decode cX8_init 54 = .ok (.aload_n 0, 1) := by decide +kernel
theorem dX8_init_55 : decode cX8_init 55 = .ok (.sipush 320, 3) := by decide +kernel
theorem dX8_init_58 : decode cX8_init 58 = .ok (.newarray .int, 2) := by decide +kernel
theorem dX8_init_60 : decode cX8_init 60 = .ok (.putfield 16, 3) := by decide +kernel
theorem dX8_init_63 : decode cX8_init 63 = .ok (.aload_n 0, 1) := by decide +kernel
theorem dX8_init_64 : decode cX8_init 64 = .ok (.bipush 68, 2) := by decide +kernel
theorem dX8_init_66 : decode cX8_init 66 = .ok (.newarray .int, 2) := by decide +kernel
theorem dX8_init_68 : decode cX8_init 68 = .ok (.putfield 19, 3) := by decide +kernel
theorem dX8_init_71 : decode cX8_init 71 = .ok (.aload_n 0, 1) := by decide +kernel
theorem dX8_init_72 : decode cX8_init 72 = .ok (.bipush 68, 2) := by decide +kernel
theorem dX8_init_74 : decode cX8_init 74 = .ok (.newarray .int, 2) := by decide +kernel
theorem dX8_init_76 : decode cX8_init 76 = .ok (.putfield 22, 3) := by decide +kernel
theorem dX8_init_79 : decode cX8_init 79 = .ok (.aload_n 0, 1) := by decide +kernel
theorem dX8_init_80 : decode cX8_init 80 = .ok (.sipush 1632, 3) := by decide +kernel
theorem dX8_init_83 : decode cX8_init 83 = .ok (.newarray .int, 2) := by decide +kernel
theorem dX8_init_85 : decode cX8_init 85 = .ok (.putfield 25, 3) := by decide +kernel
theorem dX8_init_88 : decode cX8_init 88 = .ok (.aload_n 0, 1) := by decide +kernel
theorem dX8_init_89 : decode cX8_init 89 = .ok (.sipush 400, 3) := by decide +kernel
theorem dX8_init_92 : decode cX8_init 92 = .ok (.newarray .int, 2) := by decide +kernel
theorem dX8_init_94 : decode cX8_init 94 = .ok (.putfield 28, 3) := by decide +kernel
theorem dX8_init_97 : decode cX8_init 97 = .ok (.aload_n 0, 1) := by decide +kernel
theorem dX8_init_98 : decode cX8_init 98 = .ok (.sipush 205, 3) := by decide +kernel
theorem dX8_init_101 : decode cX8_init 101 = .ok (.newarray .long, 2) := by decide +kernel
theorem dX8_init_103 : decode cX8_init 103 = .ok (.putfield 31, 3) := by decide +kernel
theorem dX8_init_106 : decode cX8_init 106 = .ok (.aload_n 0, 1) := by decide +kernel
theorem dX8_init_107 : decode cX8_init 107 = .ok (.sipush 205, 3) := by decide +kernel
theorem dX8_init_110 : decode cX8_init 110 = .ok (.newarray .long, 2) := by decide +kernel
theorem dX8_init_112 : decode cX8_init 112 = .ok (.putfield 35, 3) := by decide +kernel
theorem dX8_init_115 : decode cX8_init 115 = .ok (.aload_n 0, 1) := by decide +kernel
theorem dX8_init_116 : decode cX8_init 116 = .ok (.iconst 2, 1) := by decide +kernel
theorem dX8_init_117 : decode cX8_init 117 = .ok (.newarray .boolean, 2) := by decide +kernel
theorem dX8_init_119 : decode cX8_init 119 = .ok (.putfield 38, 3) := by decide +kernel
theorem dX8_init_122 : decode cX8_init 122 = .ok (.aload_n 0, 1) := by decide +kernel
theorem dX8_init_123 : decode cX8_init 123 = .ok (.sipush 136, 3) := by decide +kernel
theorem dX8_init_126 : decode cX8_init 126 = .ok (.newarray .int, 2) := by decide +kernel
theorem dX8_init_128 : decode cX8_init 128 = .ok (.putfield 42, 3) := by decide +kernel
theorem dX8_init_131 : decode cX8_init 131 = .ok (.aload_n 0, 1) := by decide +kernel
theorem dX8_init_132 : decode cX8_init 132 = .ok (.bipush 16, 2) := by decide +kernel
theorem dX8_init_134 : decode cX8_init 134 = .ok (.newarray .int, 2) := by decide +kernel
theorem dX8_init_136 : decode cX8_init 136 = .ok (.putfield 45, 3) := by decide +kernel
theorem dX8_init_139 : decode cX8_init 139 = .ok (.return_, 1) := by decide +kernel
theorem dX8_in_0 : decode cX8_in 0 = .ok (.lload_n 0, 1) := by decide +kernel
theorem dX8_in_1 : decode cX8_in 1 = .ok (.lload_n 2, 1) := by decide +kernel
theorem dX8_in_2 : decode cX8_in 2 = .ok (.lcmp, 1) := by decide +kernel
theorem dX8_in_3 : decode cX8_in 3 = .ok (.ifCond .lt 14, 3) := by decide +kernel
theorem dX8_in_6 : decode cX8_in 6 = .ok (.lload_n 0, 1) := by decide +kernel
theorem dX8_in_7 : decode cX8_in 7 = .ok (.lload 4, 2) := by decide +kernel
theorem dX8_in_9 : decode cX8_in 9 = .ok (.lcmp, 1) := by decide +kernel
theorem dX8_in_10 : decode cX8_in 10 = .ok (.ifCond .gt 7, 3) := by decide +kernel
theorem dX8_in_13 : decode cX8_in 13 = .ok (.iconst 1, 1) := by decide +kernel
theorem dX8_in_14 : decode cX8_in 14 = .ok (.goto 4, 3) := by decide +kernel
theorem dX8_in_17 : decode cX8_in 17 = .ok (.iconst 0, 1) := by decide +kernel
theorem dX8_in_18 : decode cX8_in 18 = .ok (.ireturn, 1) := by decide +kernel
theorem dX8_finding_0 : decode cX8_finding 0 = .ok (.aload_n 0, 1) := by decide +kernel
theorem dX8_finding_1 : decode cX8_finding 1 = .ok (.iload_n 1, 1) := by decide +kernel
theorem dX8_finding_2 : decode cX8_finding 2 = .ok (.putfield 52, 3) := by decide +kernel
theorem dX8_finding_5 : decode cX8_finding 5 = .ok (.ldc 55, 2) := by decide +kernel
theorem dX8_finding_7 : decode cX8_finding 7 = .ok (.iload_n 1, 1) := by decide +kernel
theorem dX8_finding_8 : decode cX8_finding 8 = .ok (.isub, 1) := by decide +kernel
theorem dX8_finding_9 : decode cX8_finding 9 = .ok (.ireturn, 1) := by decide +kernel
theorem dX8_isRow_0 : decode cX8_isRow 0 = .ok (.iload_n 0, 1) := by decide +kernel
theorem dX8_isRow_1 : decode cX8_isRow 1 = .ok (.i2l, 1) := by decide +kernel
theorem dX8_isRow_2 : decode cX8_isRow 2 = .ok (.lconst 0, 1) := by decide +kernel
theorem dX8_isRow_3 : decode cX8_isRow 3 = .ok (.ldc2_w 56, 3) := by decide +kernel
theorem dX8_isRow_6 : decode cX8_isRow 6 = .ok (.invokestatic 58, 3) := by decide +kernel
theorem dX8_isRow_9 : decode cX8_isRow 9 = .ok (.ireturn, 1) := by decide +kernel
theorem dX8_row_0 : decode cX8_row 0 = .ok (.aload_n 0, 1) := by decide +kernel
theorem dX8_row_1 : decode cX8_row 1 = .ok (.iconst 0, 1) := by decide +kernel
theorem dX8_row_2 : decode cX8_row 2 = .ok (.putfield 48, 3) := by decide +kernel
theorem dX8_row_5 : decode cX8_row 5 = .ok (.iload_n 1, 1) := by decide +kernel
theorem dX8_row_6 : decode cX8_row 6 = .ok (.invokestatic 62, 3) := by decide +kernel
theorem dX8_row_9 : decode cX8_row 9 = .ok (.ifCond .eq 21, 3) := by decide +kernel
theorem dX8_row_12 : decode cX8_row 12 = .ok (.iload_n 2, 1) := by decide +kernel
theorem dX8_row_13 : decode cX8_row 13 = .ok (.i2l, 1) := by decide +kernel
theorem dX8_row_14 : decode cX8_row 14 = .ok (.lconst 0, 1) := by decide +kernel
theorem dX8_row_15 : decode cX8_row 15 = .ok (.ldc2_w 66, 3) := by decide +kernel
theorem dX8_row_18 : decode cX8_row 18 = .ok (.invokestatic 58, 3) := by decide +kernel
theorem dX8_row_21 : decode cX8_row 21 = .ok (.ifCond .eq 9, 3) := by decide +kernel
theorem dX8_row_24 : decode cX8_row 24 = .ok (.iload_n 3, 1) := by decide +kernel
theorem dX8_row_25 : decode cX8_row 25 = .ok (.bipush 40, 2) := by decide +kernel
theorem dX8_row_27 : decode cX8_row 27 = .ok (.if_icmp .le 6, 3) := by decide +kernel
theorem dX8_row_30 : decode cX8_row 30 = .ok (.ldc 68, 2) := by decide +kernel
theorem dX8_row_32 : decode cX8_row 32 = .ok (.ireturn, 1) := by decide +kernel
theorem dX8_row_33 : decode cX8_row 33 = .ok (.aload_n 0, 1) := by decide +kernel
theorem dX8_row_34 : decode cX8_row 34 = .ok (.iconst 0, 1) := by decide +kernel
theorem dX8_row_35 : decode cX8_row 35 = .ok (.putfield 52, 3) := by decide +kernel
theorem dX8_row_38 : decode cX8_row 38 = .ok (.iload_n 3, 1) := by decide +kernel
theorem dX8_row_39 : decode cX8_row 39 = .ok (.ifCond .ge 9, 3) := by decide +kernel
theorem dX8_row_42 : decode cX8_row 42 = .ok (.aload_n 0, 1) := by decide +kernel
theorem dX8_row_43 : decode cX8_row 43 = .ok (.iconst 4, 1) := by decide +kernel
theorem dX8_row_44 : decode cX8_row 44 = .ok (.invokevirtual 69, 3) := by decide +kernel
theorem dX8_row_47 : decode cX8_row 47 = .ok (.ireturn, 1) := by decide +kernel
theorem dX8_row_48 : decode cX8_row 48 = .ok (.aload_n 0, 1) := by decide +kernel
theorem dX8_row_49 : decode cX8_row 49 = .ok (.getfield 7, 3) := by decide +kernel
theorem dX8_row_52 : decode cX8_row 52 = .ok (.iload_n 1, 1) := by decide +kernel
theorem dX8_row_53 : decode cX8_row 53 = .ok (.iload_n 2, 1) := by decide +kernel
theorem dX8_row_54 : decode cX8_row 54 = .ok (.iastore, 1) := by decide +kernel
theorem dX8_row_55 : decode cX8_row 55 = .ok (.aload_n 0, 1) := by decide +kernel
theorem dX8_row_56 : decode cX8_row 56 = .ok (.getfield 13, 3) := by decide +kernel
theorem dX8_row_59 : decode cX8_row 59 = .ok (.iload_n 1, 1) := by decide +kernel
theorem dX8_row_60 : decode cX8_row 60 = .ok (.iload_n 3, 1) := by decide +kernel
theorem dX8_row_61 : decode cX8_row 61 = .ok (.iastore, 1) := by decide +kernel
theorem dX8_row_62 : decode cX8_row 62 = .ok (.iconst 0, 1) := by decide +kernel
theorem dX8_row_63 : decode cX8_row 63 = .ok (.istore 4, 2) := by decide +kernel
theorem dX8_row_65 : decode cX8_row 65 = .ok (.iload 4, 2) := by decide +kernel
theorem dX8_row_67 : decode cX8_row 67 = .ok (.bipush 40, 2) := by decide +kernel
theorem dX8_row_69 : decode cX8_row 69 = .ok (.if_icmp .ge 22, 3) := by decide +kernel
theorem dX8_row_72 : decode cX8_row 72 = .ok (.aload_n 0, 1) := by decide +kernel
theorem dX8_row_73 : decode cX8_row 73 = .ok (.getfield 16, 3) := by decide +kernel
theorem dX8_row_76 : decode cX8_row 76 = .ok (.bipush 40, 2) := by decide +kernel
theorem dX8_row_78 : decode cX8_row 78 = .ok (.iload_n 1, 1) := by decide +kernel
theorem dX8_row_79 : decode cX8_row 79 = .ok (.imul, 1) := by decide +kernel
theorem dX8_row_80 : decode cX8_row 80 = .ok (.iload 4, 2) := by decide +kernel
theorem dX8_row_82 : decode cX8_row 82 = .ok (.iadd, 1) := by decide +kernel
theorem dX8_row_83 : decode cX8_row 83 = .ok (.iconst 0, 1) := by decide +kernel
theorem dX8_row_84 : decode cX8_row 84 = .ok (.iastore, 1) := by decide +kernel
theorem dX8_row_85 : decode cX8_row 85 = .ok (.iinc 4 1, 3) := by decide +kernel
theorem dX8_row_88 : decode cX8_row 88 = .ok (.goto (-23), 3) := by decide +kernel
theorem dX8_row_91 : decode cX8_row 91 = .ok (.iload_n 3, 1) := by decide +kernel
theorem dX8_row_92 : decode cX8_row 92 = .ok (.ireturn, 1) := by decide +kernel
theorem dX8_set_0 : decode cX8_set 0 = .ok (.aload_n 0, 1) := by decide +kernel
theorem dX8_set_1 : decode cX8_set 1 = .ok (.iconst 0, 1) := by decide +kernel
theorem dX8_set_2 : decode cX8_set 2 = .ok (.putfield 48, 3) := by decide +kernel
theorem dX8_set_5 : decode cX8_set 5 = .ok (.iload_n 1, 1) := by decide +kernel
theorem dX8_set_6 : decode cX8_set 6 = .ok (.invokestatic 62, 3) := by decide +kernel
theorem dX8_set_9 : decode cX8_set 9 = .ok (.ifCond .ne 6, 3) := by decide +kernel
theorem dX8_set_12 : decode cX8_set 12 = .ok (.ldc 68, 2) := by decide +kernel
theorem dX8_set_14 : decode cX8_set 14 = .ok (.ireturn, 1) := by decide +kernel
theorem dX8_set_15 : decode cX8_set 15 = .ok (.aload_n 0, 1) := by decide +kernel
theorem dX8_set_16 : decode cX8_set 16 = .ok (.iconst 0, 1) := by decide +kernel
theorem dX8_set_17 : decode cX8_set 17 = .ok (.putfield 52, 3) := by decide +kernel
theorem dX8_set_20 : decode cX8_set 20 = .ok (.aload_n 0, 1) := by decide +kernel
theorem dX8_set_21 : decode cX8_set 21 = .ok (.getfield 7, 3) := by decide +kernel
theorem dX8_set_24 : decode cX8_set 24 = .ok (.iload_n 1, 1) := by decide +kernel
theorem dX8_set_25 : decode cX8_set 25 = .ok (.iaload, 1) := by decide +kernel
theorem dX8_set_26 : decode cX8_set 26 = .ok (.ifCond .ge 9, 3) := by decide +kernel
theorem dX8_set_29 : decode cX8_set 29 = .ok (.aload_n 0, 1) := by decide +kernel
theorem dX8_set_30 : decode cX8_set 30 = .ok (.iconst 1, 1) := by decide +kernel
theorem dX8_set_31 : decode cX8_set 31 = .ok (.invokevirtual 69, 3) := by decide +kernel
theorem dX8_set_34 : decode cX8_set 34 = .ok (.ireturn, 1) := by decide +kernel
theorem dX8_set_35 : decode cX8_set 35 = .ok (.iload_n 2, 1) := by decide +kernel
theorem dX8_set_36 : decode cX8_set 36 = .ok (.i2l, 1) := by decide +kernel
theorem dX8_set_37 : decode cX8_set 37 = .ok (.lconst 0, 1) := by decide +kernel
theorem dX8_set_38 : decode cX8_set 38 = .ok (.aload_n 0, 1) := by decide +kernel
theorem dX8_set_39 : decode cX8_set 39 = .ok (.getfield 13, 3) := by decide +kernel
theorem dX8_set_42 : decode cX8_set 42 = .ok (.iload_n 1, 1) := by decide +kernel
theorem dX8_set_43 : decode cX8_set 43 = .ok (.iaload, 1) := by decide +kernel
theorem dX8_set_44 : decode cX8_set 44 = .ok (.iconst 1, 1) := by decide +kernel
theorem dX8_set_45 : decode cX8_set 45 = .ok (.isub, 1) := by decide +kernel
theorem dX8_set_46 : decode cX8_set 46 = .ok (.i2l, 1) := by decide +kernel
theorem dX8_set_47 : decode cX8_set 47 = .ok (.invokestatic 58, 3) := by decide +kernel
theorem dX8_set_50 : decode cX8_set 50 = .ok (.ifCond .ne 9, 3) := by decide +kernel
theorem dX8_set_53 : decode cX8_set 53 = .ok (.aload_n 0, 1) := by decide +kernel
theorem dX8_set_54 : decode cX8_set 54 = .ok (.iconst 2, 1) := by decide +kernel
theorem dX8_set_55 : decode cX8_set 55 = .ok (.invokevirtual 69, 3) := by decide +kernel
theorem dX8_set_58 : decode cX8_set 58 = .ok (.ireturn, 1) := by decide +kernel
theorem dX8_set_59 : decode cX8_set 59 = .ok (.aload_n 0, 1) := by decide +kernel
theorem dX8_set_60 : decode cX8_set 60 = .ok (.getfield 16, 3) := by decide +kernel
theorem dX8_set_63 : decode cX8_set 63 = .ok (.bipush 40, 2) := by decide +kernel
theorem dX8_set_65 : decode cX8_set 65 = .ok (.iload_n 1, 1) := by decide +kernel
theorem dX8_set_66 : decode cX8_set 66 = .ok (.imul, 1) := by decide +kernel
theorem dX8_set_67 : decode cX8_set 67 = .ok (.iload_n 2, 1) := by decide +kernel
theorem dX8_set_68 : decode cX8_set 68 = .ok (.iadd, 1) := by decide +kernel
theorem dX8_set_69 : decode cX8_set 69 = .ok (.aload_n 0, 1) := by decide +kernel
theorem dX8_set_70 : decode cX8_set 70 = .ok (.getfield 7, 3) := by decide +kernel
theorem dX8_set_73 : decode cX8_set 73 = .ok (.iload_n 1, 1) := by decide +kernel
theorem dX8_set_74 : decode cX8_set 74 = .ok (.iaload, 1) := by decide +kernel
theorem dX8_set_75 : decode cX8_set 75 = .ok (.ifCond .ne 8, 3) := by decide +kernel
theorem dX8_set_78 : decode cX8_set 78 = .ok (.iload_n 3, 1) := by decide +kernel
theorem dX8_set_79 : decode cX8_set 79 = .ok (.i2b, 1) := by decide +kernel
theorem dX8_set_80 : decode cX8_set 80 = .ok (.goto 19, 3) := by decide +kernel
theorem dX8_set_83 : decode cX8_set 83 = .ok (.aload_n 0, 1) := by decide +kernel
theorem dX8_set_84 : decode cX8_set 84 = .ok (.getfield 7, 3) := by decide +kernel
theorem dX8_set_87 : decode cX8_set 87 = .ok (.iload_n 1, 1) := by decide +kernel
theorem dX8_set_88 : decode cX8_set 88 = .ok (.iaload, 1) := by decide +kernel
theorem dX8_set_89 : decode cX8_set 89 = .ok (.iconst 1, 1) := by decide +kernel
theorem dX8_set_90 : decode cX8_set 90 = .ok (.if_icmp .ne 8, 3) := by decide +kernel
theorem dX8_set_93 : decode cX8_set 93 = .ok (.iload_n 3, 1) := by decide +kernel
theorem dX8_set_94 : decode cX8_set 94 = .ok (.i2s, 1) := by decide +kernel
theorem dX8_set_95 : decode cX8_set 95 = .ok (.goto 4, 3) := by decide +kernel
theorem dX8_set_98 : decode cX8_set 98 = .ok (.iload_n 3, 1) := by decide +kernel
theorem dX8_set_99 : decode cX8_set 99 = .ok (.iastore, 1) := by decide +kernel
theorem dX8_set_100 : decode cX8_set 100 = .ok (.aload_n 0, 1) := by decide +kernel
theorem dX8_set_101 : decode cX8_set 101 = .ok (.getfield 16, 3) := by decide +kernel
theorem dX8_set_104 : decode cX8_set 104 = .ok (.bipush 40, 2) := by decide +kernel
theorem dX8_set_106 : decode cX8_set 106 = .ok (.iload_n 1, 1) := by decide +kernel
theorem dX8_set_107 : decode cX8_set 107 = .ok (.imul, 1) := by decide +kernel
theorem dX8_set_108 : decode cX8_set 108 = .ok (.iload_n 2, 1) := by decide +kernel
theorem dX8_set_109 : decode cX8_set 109 = .ok (.iadd, 1) := by decide +kernel
theorem dX8_set_110 : decode cX8_set 110 = .ok (.iaload, 1) := by decide +kernel
theorem dX8_set_111 : decode cX8_set 111 = .ok (.ireturn, 1) := by decide +kernel
theorem dX8_copy_0 : decode cX8_copy 0 = .ok (.aload_n 0, 1) := by decide +kernel
theorem dX8_copy_1 : decode cX8_copy 1 = .ok (.iconst 0, 1) := by decide +kernel
theorem dX8_copy_2 : decode cX8_copy 2 = .ok (.putfield 48, 3) := by decide +kernel
theorem dX8_copy_5 : decode cX8_copy 5 = .ok (.iload_n 1, 1) := by decide +kernel
theorem dX8_copy_6 : decode cX8_copy 6 = .ok (.invokestatic 62, 3) := by decide +kernel
theorem dX8_copy_9 : decode cX8_copy 9 = .ok (.ifCond .eq 10, 3) := by decide +kernel
theorem dX8_copy_12 : decode cX8_copy 12 = .ok (.iload_n 3, 1) := by decide +kernel
theorem dX8_copy_13 : decode cX8_copy 13 = .ok (.invokestatic 62, 3) := by decide +kernel
theorem dX8_copy_16 : decode cX8_copy 16 = .ok (.ifCond .ne 6, 3) := by decide +kernel
theorem dX8_copy_19 : decode cX8_copy 19 = .ok (.ldc 68, 2) := by decide +kernel
theorem dX8_copy_21 : decode cX8_copy 21 = .ok (.ireturn, 1) := by decide +kernel
theorem dX8_copy_22 : decode cX8_copy 22 = .ok (.aload_n 0, 1) := by decide +kernel
theorem dX8_copy_23 : decode cX8_copy 23 = .ok (.iconst 0, 1) := by decide +kernel
theorem dX8_copy_24 : decode cX8_copy 24 = .ok (.putfield 52, 3) := by decide +kernel
theorem dX8_copy_27 : decode cX8_copy 27 = .ok (.aload_n 0, 1) := by decide +kernel
theorem dX8_copy_28 : decode cX8_copy 28 = .ok (.getfield 7, 3) := by decide +kernel
theorem dX8_copy_31 : decode cX8_copy 31 = .ok (.iload_n 1, 1) := by decide +kernel
theorem dX8_copy_32 : decode cX8_copy 32 = .ok (.iaload, 1) := by decide +kernel
theorem dX8_copy_33 : decode cX8_copy 33 = .ok (.ifCond .lt 12, 3) := by decide +kernel
theorem dX8_copy_36 : decode cX8_copy 36 = .ok (.aload_n 0, 1) := by decide +kernel
theorem dX8_copy_37 : decode cX8_copy 37 = .ok (.getfield 7, 3) := by decide +kernel
theorem dX8_copy_40 : decode cX8_copy 40 = .ok (.iload_n 3, 1) := by decide +kernel
theorem dX8_copy_41 : decode cX8_copy 41 = .ok (.iaload, 1) := by decide +kernel
theorem dX8_copy_42 : decode cX8_copy 42 = .ok (.ifCond .ge 9, 3) := by decide +kernel
theorem dX8_copy_45 : decode cX8_copy 45 = .ok (.aload_n 0, 1) := by decide +kernel
theorem dX8_copy_46 : decode cX8_copy 46 = .ok (.iconst 1, 1) := by decide +kernel
theorem dX8_copy_47 : decode cX8_copy 47 = .ok (.invokevirtual 69, 3) := by decide +kernel
theorem dX8_copy_50 : decode cX8_copy 50 = .ok (.ireturn, 1) := by decide +kernel
theorem dX8_copy_51 : decode cX8_copy 51 = .ok (.aload_n 0, 1) := by decide +kernel
theorem dX8_copy_52 : decode cX8_copy 52 = .ok (.getfield 7, 3) := by decide +kernel
theorem dX8_copy_55 : decode cX8_copy 55 = .ok (.iload_n 1, 1) := by decide +kernel
theorem dX8_copy_56 : decode cX8_copy 56 = .ok (.iaload, 1) := by decide +kernel
theorem dX8_copy_57 : decode cX8_copy 57 = .ok (.aload_n 0, 1) := by decide +kernel
theorem dX8_copy_58 : decode cX8_copy 58 = .ok (.getfield 7, 3) := by decide +kernel
theorem dX8_copy_61 : decode cX8_copy 61 = .ok (.iload_n 3, 1) := by decide +kernel
theorem dX8_copy_62 : decode cX8_copy 62 = .ok (.iaload, 1) := by decide +kernel
theorem dX8_copy_63 : decode cX8_copy 63 = .ok (.if_icmp .eq 9, 3) := by decide +kernel
theorem dX8_copy_66 : decode cX8_copy 66 = .ok (.aload_n 0, 1) := by decide +kernel
theorem dX8_copy_67 : decode cX8_copy 67 = .ok (.iconst 5, 1) := by decide +kernel
theorem dX8_copy_68 : decode cX8_copy 68 = .ok (.invokevirtual 69, 3) := by decide +kernel
theorem dX8_copy_71 : decode cX8_copy 71 = .ok (.ireturn, 1) := by decide +kernel
theorem dX8_copy_72 : decode cX8_copy 72 = .ok (.iload_n 2, 1) := by decide +kernel
theorem dX8_copy_73 : decode cX8_copy 73 = .ok (.ifCond .lt 48, 3) := by decide +kernel
theorem dX8_copy_76 : decode cX8_copy 76 = .ok (.iload 4, 2) := by decide +kernel
theorem dX8_copy_78 : decode cX8_copy 78 = .ok (.ifCond .lt 43, 3) := by decide +kernel
theorem dX8_copy_81 : decode cX8_copy 81 = .ok (.iload 5, 2) := by decide +kernel
theorem dX8_copy_83 : decode cX8_copy 83 = .ok (.ifCond .lt 38, 3) := by decide +kernel
theorem dX8_copy_86 : decode cX8_copy 86 = .ok (.iload_n 2, 1) := by decide +kernel
theorem dX8_copy_87 : decode cX8_copy 87 = .ok (.i2l, 1) := by decide +kernel
theorem dX8_copy_88 : decode cX8_copy 88 = .ok (.iload 5, 2) := by decide +kernel
theorem dX8_copy_90 : decode cX8_copy 90 = .ok (.i2l, 1) := by decide +kernel
theorem dX8_copy_91 : decode cX8_copy 91 = .ok (.ladd, 1) := by decide +kernel
theorem dX8_copy_92 : decode cX8_copy 92 = .ok (.aload_n 0, 1) := by decide +kernel
theorem dX8_copy_93 : decode cX8_copy 93 = .ok (.getfield 13, 3) := by decide +kernel
theorem dX8_copy_96 : decode cX8_copy 96 = .ok (.iload_n 1, 1) := by decide +kernel
theorem dX8_copy_97 : decode cX8_copy 97 = .ok (.iaload, 1) := by decide +kernel
theorem dX8_copy_98 : decode cX8_copy 98 = .ok (.i2l, 1) := by decide +kernel
theorem dX8_copy_99 : decode cX8_copy 99 = .ok (.lcmp, 1) := by decide +kernel
theorem dX8_copy_100 : decode cX8_copy 100 = .ok (.ifCond .gt 21, 3) := by decide +kernel
theorem dX8_copy_103 : decode cX8_copy 103 = .ok (.iload 4, 2) := by decide +kernel
theorem dX8_copy_105 : decode cX8_copy 105 = .ok (.i2l, 1) := by decide +kernel
theorem dX8_copy_106 : decode cX8_copy 106 = .ok (.iload 5, 2) := by decide +kernel
theorem dX8_copy_108 : decode cX8_copy 108 = .ok (.i2l, 1) := by decide +kernel
theorem dX8_copy_109 : decode cX8_copy 109 = .ok (.ladd, 1) := by decide +kernel
theorem dX8_copy_110 : decode cX8_copy 110 = .ok (.aload_n 0, 1) := by decide +kernel
theorem dX8_copy_111 : decode cX8_copy 111 = .ok (.getfield 13, 3) := by decide +kernel
theorem dX8_copy_114 : decode cX8_copy 114 = .ok (.iload_n 3, 1) := by decide +kernel
theorem dX8_copy_115 : decode cX8_copy 115 = .ok (.iaload, 1) := by decide +kernel
theorem dX8_copy_116 : decode cX8_copy 116 = .ok (.i2l, 1) := by decide +kernel
theorem dX8_copy_117 : decode cX8_copy 117 = .ok (.lcmp, 1) := by decide +kernel
theorem dX8_copy_118 : decode cX8_copy 118 = .ok (.ifCond .le 9, 3) := by decide +kernel
theorem dX8_copy_121 : decode cX8_copy 121 = .ok (.aload_n 0, 1) := by decide +kernel
theorem dX8_copy_122 : decode cX8_copy 122 = .ok (.iconst 2, 1) := by decide +kernel
theorem dX8_copy_123 : decode cX8_copy 123 = .ok (.invokevirtual 69, 3) := by decide +kernel
theorem dX8_copy_126 : decode cX8_copy 126 = .ok (.ireturn, 1) := by decide +kernel
theorem dX8_copy_127 : decode cX8_copy 127 = .ok (.iload_n 2, 1) := by decide +kernel
theorem dX8_copy_128 : decode cX8_copy 128 = .ok (.iload 4, 2) := by decide +kernel
theorem dX8_copy_130 : decode cX8_copy 130 = .ok (.if_icmp .lt 7, 3) := by decide +kernel
theorem dX8_copy_133 : decode cX8_copy 133 = .ok (.iconst 1, 1) := by decide +kernel
theorem dX8_copy_134 : decode cX8_copy 134 = .ok (.goto 4, 3) := by decide +kernel
theorem dX8_copy_137 : decode cX8_copy 137 = .ok (.iconst 0, 1) := by decide +kernel
theorem dX8_copy_138 : decode cX8_copy 138 = .ok (.istore 6, 2) := by decide +kernel
theorem dX8_copy_140 : decode cX8_copy 140 = .ok (.iconst 0, 1) := by decide +kernel
theorem dX8_copy_141 : decode cX8_copy 141 = .ok (.istore 7, 2) := by decide +kernel
theorem dX8_copy_143 : decode cX8_copy 143 = .ok (.iload 7, 2) := by decide +kernel
theorem dX8_copy_145 : decode cX8_copy 145 = .ok (.iload 5, 2) := by decide +kernel
theorem dX8_copy_147 : decode cX8_copy 147 = .ok (.if_icmp .ge 57, 3) := by decide +kernel
theorem dX8_copy_150 : decode cX8_copy 150 = .ok (.iload 6, 2) := by decide +kernel
theorem dX8_copy_152 : decode cX8_copy 152 = .ok (.ifCond .eq 8, 3) := by decide +kernel
theorem dX8_copy_155 : decode cX8_copy 155 = .ok (.iload 7, 2) := by decide +kernel
theorem dX8_copy_157 : decode cX8_copy 157 = .ok (.goto 10, 3) := by decide +kernel
theorem dX8_copy_160 : decode cX8_copy 160 = .ok (.iload 5, 2) := by decide +kernel
theorem dX8_copy_162 : decode cX8_copy 162 = .ok (.iconst 1, 1) := by decide +kernel
theorem dX8_copy_163 : decode cX8_copy 163 = .ok (.isub, 1) := by decide +kernel
theorem dX8_copy_164 : decode cX8_copy 164 = .ok (.iload 7, 2) := by decide +kernel
theorem dX8_copy_166 : decode cX8_copy 166 = .ok (.isub, 1) := by decide +kernel
theorem dX8_copy_167 : decode cX8_copy 167 = .ok (.istore 8, 2) := by decide +kernel
theorem dX8_copy_169 : decode cX8_copy 169 = .ok (.aload_n 0, 1) := by decide +kernel
theorem dX8_copy_170 : decode cX8_copy 170 = .ok (.getfield 16, 3) := by decide +kernel
theorem dX8_copy_173 : decode cX8_copy 173 = .ok (.bipush 40, 2) := by decide +kernel
theorem dX8_copy_175 : decode cX8_copy 175 = .ok (.iload_n 3, 1) := by decide +kernel
theorem dX8_copy_176 : decode cX8_copy 176 = .ok (.imul, 1) := by decide +kernel
theorem dX8_copy_177 : decode cX8_copy 177 = .ok (.iload 4, 2) := by decide +kernel
theorem dX8_copy_179 : decode cX8_copy 179 = .ok (.iadd, 1) := by decide +kernel
theorem dX8_copy_180 : decode cX8_copy 180 = .ok (.iload 8, 2) := by decide +kernel
theorem dX8_copy_182 : decode cX8_copy 182 = .ok (.iadd, 1) := by decide +kernel
theorem dX8_copy_183 : decode cX8_copy 183 = .ok (.aload_n 0, 1) := by decide +kernel
theorem dX8_copy_184 : decode cX8_copy 184 = .ok (.getfield 16, 3) := by decide +kernel
theorem dX8_copy_187 : decode cX8_copy 187 = .ok (.bipush 40, 2) := by decide +kernel
theorem dX8_copy_189 : decode cX8_copy 189 = .ok (.iload_n 1, 1) := by decide +kernel
theorem dX8_copy_190 : decode cX8_copy 190 = .ok (.imul, 1) := by decide +kernel
theorem dX8_copy_191 : decode cX8_copy 191 = .ok (.iload_n 2, 1) := by decide +kernel
theorem dX8_copy_192 : decode cX8_copy 192 = .ok (.iadd, 1) := by decide +kernel
theorem dX8_copy_193 : decode cX8_copy 193 = .ok (.iload 8, 2) := by decide +kernel
theorem dX8_copy_195 : decode cX8_copy 195 = .ok (.iadd, 1) := by decide +kernel
theorem dX8_copy_196 : decode cX8_copy 196 = .ok (.iaload, 1) := by decide +kernel
theorem dX8_copy_197 : decode cX8_copy 197 = .ok (.iastore, 1) := by decide +kernel
theorem dX8_copy_198 : decode cX8_copy 198 = .ok (.iinc 7 1, 3) := by decide +kernel
theorem dX8_copy_201 : decode cX8_copy 201 = .ok (.goto (-58), 3) := by decide +kernel
theorem dX8_copy_204 : decode cX8_copy 204 = .ok (.iload 5, 2) := by decide +kernel
theorem dX8_copy_206 : decode cX8_copy 206 = .ok (.ireturn, 1) := by decide +kernel
theorem dX8_drop_0 : decode cX8_drop 0 = .ok (.aload_n 0, 1) := by decide +kernel
theorem dX8_drop_1 : decode cX8_drop 1 = .ok (.iconst 0, 1) := by decide +kernel
theorem dX8_drop_2 : decode cX8_drop 2 = .ok (.putfield 48, 3) := by decide +kernel
theorem dX8_drop_5 : decode cX8_drop 5 = .ok (.iload_n 1, 1) := by decide +kernel
theorem dX8_drop_6 : decode cX8_drop 6 = .ok (.invokestatic 62, 3) := by decide +kernel
theorem dX8_drop_9 : decode cX8_drop 9 = .ok (.ifCond .ne 6, 3) := by decide +kernel
theorem dX8_drop_12 : decode cX8_drop 12 = .ok (.ldc 68, 2) := by decide +kernel
theorem dX8_drop_14 : decode cX8_drop 14 = .ok (.ireturn, 1) := by decide +kernel
theorem dX8_drop_15 : decode cX8_drop 15 = .ok (.aload_n 0, 1) := by decide +kernel
theorem dX8_drop_16 : decode cX8_drop 16 = .ok (.iconst 0, 1) := by decide +kernel
theorem dX8_drop_17 : decode cX8_drop 17 = .ok (.putfield 52, 3) := by decide +kernel
theorem dX8_drop_20 : decode cX8_drop 20 = .ok (.aload_n 0, 1) := by decide +kernel
theorem dX8_drop_21 : decode cX8_drop 21 = .ok (.getfield 7, 3) := by decide +kernel
theorem dX8_drop_24 : decode cX8_drop 24 = .ok (.iload_n 1, 1) := by decide +kernel
theorem dX8_drop_25 : decode cX8_drop 25 = .ok (.iaload, 1) := by decide +kernel
theorem dX8_drop_26 : decode cX8_drop 26 = .ok (.ifCond .ge 9, 3) := by decide +kernel
theorem dX8_drop_29 : decode cX8_drop 29 = .ok (.aload_n 0, 1) := by decide +kernel
theorem dX8_drop_30 : decode cX8_drop 30 = .ok (.iconst 1, 1) := by decide +kernel
theorem dX8_drop_31 : decode cX8_drop 31 = .ok (.invokevirtual 69, 3) := by decide +kernel
theorem dX8_drop_34 : decode cX8_drop 34 = .ok (.ireturn, 1) := by decide +kernel
theorem dX8_drop_35 : decode cX8_drop 35 = .ok (.aload_n 0, 1) := by decide +kernel
theorem dX8_drop_36 : decode cX8_drop 36 = .ok (.getfield 7, 3) := by decide +kernel
theorem dX8_drop_39 : decode cX8_drop 39 = .ok (.iload_n 1, 1) := by decide +kernel
theorem dX8_drop_40 : decode cX8_drop 40 = .ok (.iconst (-1), 1) := by decide +kernel
theorem dX8_drop_41 : decode cX8_drop 41 = .ok (.iastore, 1) := by decide +kernel
theorem dX8_drop_42 : decode cX8_drop 42 = .ok (.aload_n 0, 1) := by decide +kernel
theorem dX8_drop_43 : decode cX8_drop 43 = .ok (.getfield 13, 3) := by decide +kernel
theorem dX8_drop_46 : decode cX8_drop 46 = .ok (.iload_n 1, 1) := by decide +kernel
theorem dX8_drop_47 : decode cX8_drop 47 = .ok (.iaload, 1) := by decide +kernel
theorem dX8_drop_48 : decode cX8_drop 48 = .ok (.ireturn, 1) := by decide +kernel
theorem dX8_feed_0 : decode cX8_feed 0 = .ok (.aload_n 0, 1) := by decide +kernel
theorem dX8_feed_1 : decode cX8_feed 1 = .ok (.iconst 0, 1) := by decide +kernel
theorem dX8_feed_2 : decode cX8_feed 2 = .ok (.putfield 48, 3) := by decide +kernel
theorem dX8_feed_5 : decode cX8_feed 5 = .ok (.iload_n 3, 1) := by decide +kernel
theorem dX8_feed_6 : decode cX8_feed 6 = .ok (.i2l, 1) := by decide +kernel
theorem dX8_feed_7 : decode cX8_feed 7 = .ok (.lconst 1, 1) := by decide +kernel
theorem dX8_feed_8 : decode cX8_feed 8 = .ok (.ldc2_w 73, 3) := by decide +kernel
theorem dX8_feed_11 : decode cX8_feed 11 = .ok (.invokestatic 58, 3) := by decide +kernel
theorem dX8_feed_14 : decode cX8_feed 14 = .ok (.ifCond .ne 6, 3) := by decide +kernel
theorem dX8_feed_17 : decode cX8_feed 17 = .ok (.ldc 68, 2) := by decide +kernel
theorem dX8_feed_19 : decode cX8_feed 19 = .ok (.ireturn, 1) := by decide +kernel
theorem dX8_feed_20 : decode cX8_feed 20 = .ok (.aload_n 0, 1) := by decide +kernel
theorem dX8_feed_21 : decode cX8_feed 21 = .ok (.getfield 75, 3) := by decide +kernel
theorem dX8_feed_24 : decode cX8_feed 24 = .ok (.iload_n 3, 1) := by decide +kernel
theorem dX8_feed_25 : decode cX8_feed 25 = .ok (.iadd, 1) := by decide +kernel
theorem dX8_feed_26 : decode cX8_feed 26 = .ok (.sipush 400, 3) := by decide +kernel
theorem dX8_feed_29 : decode cX8_feed 29 = .ok (.if_icmp .le 6, 3) := by decide +kernel
theorem dX8_feed_32 : decode cX8_feed 32 = .ok (.ldc 78, 2) := by decide +kernel
theorem dX8_feed_34 : decode cX8_feed 34 = .ok (.ireturn, 1) := by decide +kernel
theorem dX8_feed_35 : decode cX8_feed 35 = .ok (.iload_n 3, 1) := by decide +kernel
theorem dX8_feed_36 : decode cX8_feed 36 = .ok (.iconst 1, 1) := by decide +kernel
theorem dX8_feed_37 : decode cX8_feed 37 = .ok (.isub, 1) := by decide +kernel
theorem dX8_feed_38 : decode cX8_feed 38 = .ok (.istore 4, 2) := by decide +kernel
theorem dX8_feed_40 : decode cX8_feed 40 = .ok (.iload 4, 2) := by decide +kernel
theorem dX8_feed_42 : decode cX8_feed 42 = .ok (.ifCond .lt 40, 3) := by decide +kernel
theorem dX8_feed_45 : decode cX8_feed 45 = .ok (.aload_n 0, 1) := by decide +kernel
theorem dX8_feed_46 : decode cX8_feed 46 = .ok (.getfield 28, 3) := by decide +kernel
theorem dX8_feed_49 : decode cX8_feed 49 = .ok (.aload_n 0, 1) := by decide +kernel
theorem dX8_feed_50 : decode cX8_feed 50 = .ok (.getfield 75, 3) := by decide +kernel
theorem dX8_feed_53 : decode cX8_feed 53 = .ok (.lload_n 1, 1) := by decide +kernel
theorem dX8_feed_54 : decode cX8_feed 54 = .ok (.bipush 8, 2) := by decide +kernel
theorem dX8_feed_56 : decode cX8_feed 56 = .ok (.iload 4, 2) := by decide +kernel
theorem dX8_feed_58 : decode cX8_feed 58 = .ok (.imul, 1) := by decide +kernel
theorem dX8_feed_59 : decode cX8_feed 59 = .ok (.lshr, 1) := by decide +kernel
theorem dX8_feed_60 : decode cX8_feed 60 = .ok (.ldc2_w 79, 3) := by decide +kernel
theorem dX8_feed_63 : decode cX8_feed 63 = .ok (.land, 1) := by decide +kernel
theorem dX8_feed_64 : decode cX8_feed 64 = .ok (.l2i, 1) := by decide +kernel
theorem dX8_feed_65 : decode cX8_feed 65 = .ok (.iastore, 1) := by decide +kernel
theorem dX8_feed_66 : decode cX8_feed 66 = .ok (.aload_n 0, 1) := by decide +kernel
theorem dX8_feed_67 : decode cX8_feed 67 = .ok (.dup, 1) := by decide +kernel
theorem dX8_feed_68 : decode cX8_feed 68 = .ok (.getfield 75, 3) := by decide +kernel
theorem dX8_feed_71 : decode cX8_feed 71 = .ok (.iconst 1, 1) := by decide +kernel
theorem dX8_feed_72 : decode cX8_feed 72 = .ok (.iadd, 1) := by decide +kernel
theorem dX8_feed_73 : decode cX8_feed 73 = .ok (.putfield 75, 3) := by decide +kernel
theorem dX8_feed_76 : decode cX8_feed 76 = .ok (.iinc 4 (-1), 3) := by decide +kernel
theorem dX8_feed_79 : decode cX8_feed 79 = .ok (.goto (-39), 3) := by decide +kernel
theorem dX8_feed_82 : decode cX8_feed 82 = .ok (.aload_n 0, 1) := by decide +kernel
theorem dX8_feed_83 : decode cX8_feed 83 = .ok (.getfield 75, 3) := by decide +kernel
theorem dX8_feed_86 : decode cX8_feed 86 = .ok (.ireturn, 1) := by decide +kernel
theorem dX8_byteAt_0 : decode cX8_byteAt 0 = .ok (.iload_n 1, 1) := by decide +kernel
theorem dX8_byteAt_1 : decode cX8_byteAt 1 = .ok (.aload_n 0, 1) := by decide +kernel
theorem dX8_byteAt_2 : decode cX8_byteAt 2 = .ok (.getfield 81, 3) := by decide +kernel
theorem dX8_byteAt_5 : decode cX8_byteAt 5 = .ok (.if_icmp .ge 12, 3) := by decide +kernel
theorem dX8_byteAt_8 : decode cX8_byteAt 8 = .ok (.aload_n 0, 1) := by decide +kernel
theorem dX8_byteAt_9 : decode cX8_byteAt 9 = .ok (.getfield 28, 3) := by decide +kernel
theorem dX8_byteAt_12 : decode cX8_byteAt 12 = .ok (.iload_n 1, 1) := by decide +kernel
theorem dX8_byteAt_13 : decode cX8_byteAt 13 = .ok (.iaload, 1) := by decide +kernel
theorem dX8_byteAt_14 : decode cX8_byteAt 14 = .ok (.goto 5, 3) := by decide +kernel
theorem dX8_byteAt_17 : decode cX8_byteAt 17 = .ok (.ldc 84, 2) := by decide +kernel
theorem dX8_byteAt_19 : decode cX8_byteAt 19 = .ok (.ireturn, 1) := by decide +kernel
theorem dX8_isLetter_0 : decode cX8_isLetter 0 = .ok (.iload_n 0, 1) := by decide +kernel
theorem dX8_isLetter_1 : decode cX8_isLetter 1 = .ok (.bipush 97, 2) := by decide +kernel
theorem dX8_isLetter_3 : decode cX8_isLetter 3 = .ok (.if_icmp .lt 13, 3) := by decide +kernel
theorem dX8_isLetter_6 : decode cX8_isLetter 6 = .ok (.iload_n 0, 1) := by decide +kernel
theorem dX8_isLetter_7 : decode cX8_isLetter 7 = .ok (.bipush 122, 2) := by decide +kernel
theorem dX8_isLetter_9 : decode cX8_isLetter 9 = .ok (.if_icmp .gt 7, 3) := by decide +kernel
theorem dX8_isLetter_12 : decode cX8_isLetter 12 = .ok (.iconst 1, 1) := by decide +kernel
theorem dX8_isLetter_13 : decode cX8_isLetter 13 = .ok (.goto 4, 3) := by decide +kernel
theorem dX8_isLetter_16 : decode cX8_isLetter 16 = .ok (.iconst 0, 1) := by decide +kernel
theorem dX8_isLetter_17 : decode cX8_isLetter 17 = .ok (.ireturn, 1) := by decide +kernel
theorem dX8_isFigure_0 : decode cX8_isFigure 0 = .ok (.iload_n 0, 1) := by decide +kernel
theorem dX8_isFigure_1 : decode cX8_isFigure 1 = .ok (.bipush 48, 2) := by decide +kernel
theorem dX8_isFigure_3 : decode cX8_isFigure 3 = .ok (.if_icmp .lt 13, 3) := by decide +kernel
theorem dX8_isFigure_6 : decode cX8_isFigure 6 = .ok (.iload_n 0, 1) := by decide +kernel
theorem dX8_isFigure_7 : decode cX8_isFigure 7 = .ok (.bipush 57, 2) := by decide +kernel
theorem dX8_isFigure_9 : decode cX8_isFigure 9 = .ok (.if_icmp .gt 7, 3) := by decide +kernel
theorem dX8_isFigure_12 : decode cX8_isFigure 12 = .ok (.iconst 1, 1) := by decide +kernel
theorem dX8_isFigure_13 : decode cX8_isFigure 13 = .ok (.goto 4, 3) := by decide +kernel
theorem dX8_isFigure_16 : decode cX8_isFigure 16 = .ok (.iconst 0, 1) := by decide +kernel
theorem dX8_isFigure_17 : decode cX8_isFigure 17 = .ok (.ireturn, 1) := by decide +kernel
theorem dX8_next_0 : decode cX8_next 0 = .ok (.aload_n 0, 1) := by decide +kernel
theorem dX8_next_1 : decode cX8_next 1 = .ok (.aload_n 0, 1) := by decide +kernel
theorem dX8_next_2 : decode cX8_next 2 = .ok (.getfield 85, 3) := by decide +kernel
theorem dX8_next_5 : decode cX8_next 5 = .ok (.invokevirtual 88, 3) := by decide +kernel
theorem dX8_next_8 : decode cX8_next 8 = .ok (.bipush 32, 2) := by decide +kernel
theorem dX8_next_10 : decode cX8_next 10 = .ok (.if_icmp .eq 16, 3) := by decide +kernel
theorem dX8_next_13 : decode cX8_next 13 = .ok (.aload_n 0, 1) := by decide +kernel
theorem dX8_next_14 : decode cX8_next 14 = .ok (.aload_n 0, 1) := by decide +kernel
theorem dX8_next_15 : decode cX8_next 15 = .ok (.getfield 85, 3) := by decide +kernel
theorem dX8_next_18 : decode cX8_next 18 = .ok (.invokevirtual 88, 3) := by decide +kernel
theorem dX8_next_21 : decode cX8_next 21 = .ok (.bipush 10, 2) := by decide +kernel
theorem dX8_next_23 : decode cX8_next 23 = .ok (.if_icmp .ne 16, 3) := by decide +kernel
theorem dX8_next_26 : decode cX8_next 26 = .ok (.aload_n 0, 1) := by decide +kernel
theorem dX8_next_27 : decode cX8_next 27 = .ok (.dup, 1) := by decide +kernel
theorem dX8_next_28 : decode cX8_next 28 = .ok (.getfield 85, 3) := by decide +kernel
theorem dX8_next_31 : decode cX8_next 31 = .ok (.iconst 1, 1) := by decide +kernel
theorem dX8_next_32 : decode cX8_next 32 = .ok (.iadd, 1) := by decide +kernel
theorem dX8_next_33 : decode cX8_next 33 = .ok (.putfield 85, 3) := by decide +kernel
theorem dX8_next_36 : decode cX8_next 36 = .ok (.goto (-36), 3) := by decide +kernel
theorem dX8_next_39 : decode cX8_next 39 = .ok (.aload_n 0, 1) := by decide +kernel
theorem dX8_next_40 : decode cX8_next 40 = .ok (.aload_n 0, 1) := by decide +kernel
theorem dX8_next_41 : decode cX8_next 41 = .ok (.getfield 85, 3) := by decide +kernel
theorem dX8_next_44 : decode cX8_next 44 = .ok (.putfield 91, 3) := by decide +kernel
theorem dX8_next_47 : decode cX8_next 47 = .ok (.aload_n 0, 1) := by decide +kernel
theorem dX8_next_48 : decode cX8_next 48 = .ok (.aload_n 0, 1) := by decide +kernel
theorem dX8_next_49 : decode cX8_next 49 = .ok (.getfield 85, 3) := by decide +kernel
theorem dX8_next_52 : decode cX8_next 52 = .ok (.invokevirtual 88, 3) := by decide +kernel
theorem dX8_next_55 : decode cX8_next 55 = .ok (.istore_n 1, 1) := by decide +kernel
theorem dX8_next_56 : decode cX8_next 56 = .ok (.iload_n 1, 1) := by decide +kernel
theorem dX8_next_57 : decode cX8_next 57 = .ok (.ldc 84, 2) := by decide +kernel
theorem dX8_next_59 : decode cX8_next 59 = .ok (.if_icmp .ne 11, 3) := by decide +kernel
theorem dX8_next_62 : decode cX8_next 62 = .ok (.aload_n 0, 1) := by decide +kernel
theorem dX8_next_63 : decode cX8_next 63 = .ok (.iconst 1, 1) := by decide +kernel
theorem dX8_next_64 : decode cX8_next 64 = .ok (.putfield 94, 3) := by decide +kernel
theorem dX8_next_67 : decode cX8_next 67 = .ok (.goto 129, 3) := by decide +kernel
theorem dX8_next_70 : decode cX8_next 70 = .ok (.iload_n 1, 1) := by decide +kernel
theorem dX8_next_71 : decode cX8_next 71 = .ok (.invokestatic 97, 3) := by decide +kernel
theorem dX8_next_74 : decode cX8_next 74 = .ok (.ifCond .eq 38, 3) := by decide +kernel
theorem dX8_next_77 : decode cX8_next 77 = .ok (.aload_n 0, 1) := by decide +kernel
theorem dX8_next_78 : decode cX8_next 78 = .ok (.aload_n 0, 1) := by decide +kernel
theorem dX8_next_79 : decode cX8_next 79 = .ok (.getfield 85, 3) := by decide +kernel
theorem dX8_next_82 : decode cX8_next 82 = .ok (.invokevirtual 88, 3) := by decide +kernel
theorem dX8_next_85 : decode cX8_next 85 = .ok (.invokestatic 97, 3) := by decide +kernel
theorem dX8_next_88 : decode cX8_next 88 = .ok (.ifCond .eq 16, 3) := by decide +kernel
theorem dX8_next_91 : decode cX8_next 91 = .ok (.aload_n 0, 1) := by decide +kernel
theorem dX8_next_92 : decode cX8_next 92 = .ok (.dup, 1) := by decide +kernel
theorem dX8_next_93 : decode cX8_next 93 = .ok (.getfield 85, 3) := by decide +kernel
theorem dX8_next_96 : decode cX8_next 96 = .ok (.iconst 1, 1) := by decide +kernel
theorem dX8_next_97 : decode cX8_next 97 = .ok (.iadd, 1) := by decide +kernel
theorem dX8_next_98 : decode cX8_next 98 = .ok (.putfield 85, 3) := by decide +kernel
theorem dX8_next_101 : decode cX8_next 101 = .ok (.goto (-24), 3) := by decide +kernel
theorem dX8_next_104 : decode cX8_next 104 = .ok (.aload_n 0, 1) := by decide +kernel
theorem dX8_next_105 : decode cX8_next 105 = .ok (.iconst 2, 1) := by decide +kernel
theorem dX8_next_106 : decode cX8_next 106 = .ok (.putfield 94, 3) := by decide +kernel
theorem dX8_next_109 : decode cX8_next 109 = .ok (.goto 87, 3) := by decide +kernel
theorem dX8_next_112 : decode cX8_next 112 = .ok (.iload_n 1, 1) := by decide +kernel
theorem dX8_next_113 : decode cX8_next 113 = .ok (.invokestatic 100, 3) := by decide +kernel
theorem dX8_next_116 : decode cX8_next 116 = .ok (.ifCond .eq 55, 3) := by decide +kernel
theorem dX8_next_119 : decode cX8_next 119 = .ok (.aload_n 0, 1) := by decide +kernel
theorem dX8_next_120 : decode cX8_next 120 = .ok (.aload_n 0, 1) := by decide +kernel
theorem dX8_next_121 : decode cX8_next 121 = .ok (.getfield 85, 3) := by decide +kernel
theorem dX8_next_124 : decode cX8_next 124 = .ok (.invokevirtual 88, 3) := by decide +kernel
theorem dX8_next_127 : decode cX8_next 127 = .ok (.invokestatic 100, 3) := by decide +kernel
theorem dX8_next_130 : decode cX8_next 130 = .ok (.ifCond .eq 16, 3) := by decide +kernel
theorem dX8_next_133 : decode cX8_next 133 = .ok (.aload_n 0, 1) := by decide +kernel
theorem dX8_next_134 : decode cX8_next 134 = .ok (.dup, 1) := by decide +kernel
theorem dX8_next_135 : decode cX8_next 135 = .ok (.getfield 85, 3) := by decide +kernel
theorem dX8_next_138 : decode cX8_next 138 = .ok (.iconst 1, 1) := by decide +kernel
theorem dX8_next_139 : decode cX8_next 139 = .ok (.iadd, 1) := by decide +kernel
theorem dX8_next_140 : decode cX8_next 140 = .ok (.putfield 85, 3) := by decide +kernel
theorem dX8_next_143 : decode cX8_next 143 = .ok (.goto (-24), 3) := by decide +kernel
theorem dX8_next_146 : decode cX8_next 146 = .ok (.aload_n 0, 1) := by decide +kernel
theorem dX8_next_147 : decode cX8_next 147 = .ok (.aload_n 0, 1) := by decide +kernel
theorem dX8_next_148 : decode cX8_next 148 = .ok (.getfield 85, 3) := by decide +kernel
theorem dX8_next_151 : decode cX8_next 151 = .ok (.aload_n 0, 1) := by decide +kernel
theorem dX8_next_152 : decode cX8_next 152 = .ok (.getfield 91, 3) := by decide +kernel
theorem dX8_next_155 : decode cX8_next 155 = .ok (.isub, 1) := by decide +kernel
theorem dX8_next_156 : decode cX8_next 156 = .ok (.iconst 3, 1) := by decide +kernel
theorem dX8_next_157 : decode cX8_next 157 = .ok (.if_icmp .le 7, 3) := by decide +kernel
theorem dX8_next_160 : decode cX8_next 160 = .ok (.iconst 0, 1) := by decide +kernel
theorem dX8_next_161 : decode cX8_next 161 = .ok (.goto 4, 3) := by decide +kernel
theorem dX8_next_164 : decode cX8_next 164 = .ok (.iconst 3, 1) := by decide +kernel
theorem dX8_next_165 : decode cX8_next 165 = .ok (.putfield 94, 3) := by decide +kernel
theorem dX8_next_168 : decode cX8_next 168 = .ok (.goto 28, 3) := by decide +kernel
theorem dX8_next_171 : decode cX8_next 171 = .ok (.aload_n 0, 1) := by decide +kernel
theorem dX8_next_172 : decode cX8_next 172 = .ok (.dup, 1) := by decide +kernel
theorem dX8_next_173 : decode cX8_next 173 = .ok (.getfield 85, 3) := by decide +kernel
theorem dX8_next_176 : decode cX8_next 176 = .ok (.iconst 1, 1) := by decide +kernel
theorem dX8_next_177 : decode cX8_next 177 = .ok (.iadd, 1) := by decide +kernel
theorem dX8_next_178 : decode cX8_next 178 = .ok (.putfield 85, 3) := by decide +kernel
theorem dX8_next_181 : decode cX8_next 181 = .ok (.aload_n 0, 1) := by decide +kernel
theorem dX8_next_182 : decode cX8_next 182 = .ok (.iload_n 1, 1) := by decide +kernel
theorem dX8_next_183 : decode cX8_next 183 = .ok (.bipush 59, 2) := by decide +kernel
theorem dX8_next_185 : decode cX8_next 185 = .ok (.if_icmp .ne 7, 3) := by decide +kernel
theorem dX8_next_188 : decode cX8_next 188 = .ok (.iconst 4, 1) := by decide +kernel
theorem dX8_next_189 : decode cX8_next 189 = .ok (.goto 4, 3) := by decide +kernel
theorem dX8_next_192 : decode cX8_next 192 = .ok (.iconst 0, 1) := by decide +kernel
theorem dX8_next_193 : decode cX8_next 193 = .ok (.putfield 94, 3) := by decide +kernel
theorem dX8_next_196 : decode cX8_next 196 = .ok (.aload_n 0, 1) := by decide +kernel
theorem dX8_next_197 : decode cX8_next 197 = .ok (.aload_n 0, 1) := by decide +kernel
theorem dX8_next_198 : decode cX8_next 198 = .ok (.getfield 85, 3) := by decide +kernel
theorem dX8_next_201 : decode cX8_next 201 = .ok (.putfield 103, 3) := by decide +kernel
theorem dX8_next_204 : decode cX8_next 204 = .ok (.return_, 1) := by decide +kernel
theorem dX8_begin_0 : decode cX8_begin 0 = .ok (.aload_n 0, 1) := by decide +kernel
theorem dX8_begin_1 : decode cX8_begin 1 = .ok (.aload_n 0, 1) := by decide +kernel
theorem dX8_begin_2 : decode cX8_begin 2 = .ok (.getfield 75, 3) := by decide +kernel
theorem dX8_begin_5 : decode cX8_begin 5 = .ok (.putfield 81, 3) := by decide +kernel
theorem dX8_begin_8 : decode cX8_begin 8 = .ok (.aload_n 0, 1) := by decide +kernel
theorem dX8_begin_9 : decode cX8_begin 9 = .ok (.iconst 0, 1) := by decide +kernel
theorem dX8_begin_10 : decode cX8_begin 10 = .ok (.putfield 75, 3) := by decide +kernel
theorem dX8_begin_13 : decode cX8_begin 13 = .ok (.aload_n 0, 1) := by decide +kernel
theorem dX8_begin_14 : decode cX8_begin 14 = .ok (.iconst 0, 1) := by decide +kernel
theorem dX8_begin_15 : decode cX8_begin 15 = .ok (.putfield 85, 3) := by decide +kernel
theorem dX8_begin_18 : decode cX8_begin 18 = .ok (.aload_n 0, 1) := by decide +kernel
theorem dX8_begin_19 : decode cX8_begin 19 = .ok (.iconst 0, 1) := by decide +kernel
theorem dX8_begin_20 : decode cX8_begin 20 = .ok (.putfield 106, 3) := by decide +kernel
theorem dX8_begin_23 : decode cX8_begin 23 = .ok (.aload_n 0, 1) := by decide +kernel
theorem dX8_begin_24 : decode cX8_begin 24 = .ok (.invokevirtual 109, 3) := by decide +kernel
theorem dX8_begin_27 : decode cX8_begin 27 = .ok (.return_, 1) := by decide +kernel
theorem dX8_bad_0 : decode cX8_bad 0 = .ok (.aload_n 0, 1) := by decide +kernel
theorem dX8_bad_1 : decode cX8_bad 1 = .ok (.getfield 106, 3) := by decide +kernel
theorem dX8_bad_4 : decode cX8_bad 4 = .ok (.ifCond .ne 16, 3) := by decide +kernel
theorem dX8_bad_7 : decode cX8_bad 7 = .ok (.aload_n 0, 1) := by decide +kernel
theorem dX8_bad_8 : decode cX8_bad 8 = .ok (.iload_n 1, 1) := by decide +kernel
theorem dX8_bad_9 : decode cX8_bad 9 = .ok (.putfield 106, 3) := by decide +kernel
theorem dX8_bad_12 : decode cX8_bad 12 = .ok (.aload_n 0, 1) := by decide +kernel
theorem dX8_bad_13 : decode cX8_bad 13 = .ok (.aload_n 0, 1) := by decide +kernel
theorem dX8_bad_14 : decode cX8_bad 14 = .ok (.getfield 91, 3) := by decide +kernel
theorem dX8_bad_17 : decode cX8_bad 17 = .ok (.putfield 112, 3) := by decide +kernel
theorem dX8_bad_20 : decode cX8_bad 20 = .ok (.return_, 1) := by decide +kernel
theorem dX8_must_0 : decode cX8_must 0 = .ok (.iload_n 1, 1) := by decide +kernel
theorem dX8_must_1 : decode cX8_must 1 = .ok (.ifCond .ne 8, 3) := by decide +kernel
theorem dX8_must_4 : decode cX8_must 4 = .ok (.aload_n 0, 1) := by decide +kernel
theorem dX8_must_5 : decode cX8_must 5 = .ok (.iconst 1, 1) := by decide +kernel
theorem dX8_must_6 : decode cX8_must 6 = .ok (.invokevirtual 115, 3) := by decide +kernel
theorem dX8_must_9 : decode cX8_must 9 = .ok (.aload_n 0, 1) := by decide +kernel
theorem dX8_must_10 : decode cX8_must 10 = .ok (.getfield 106, 3) := by decide +kernel
theorem dX8_must_13 : decode cX8_must 13 = .ok (.ifCond .ne 7, 3) := by decide +kernel
theorem dX8_must_16 : decode cX8_must 16 = .ok (.aload_n 0, 1) := by decide +kernel
theorem dX8_must_17 : decode cX8_must 17 = .ok (.invokevirtual 109, 3) := by decide +kernel
theorem dX8_must_20 : decode cX8_must 20 = .ok (.return_, 1) := by decide +kernel
theorem dX8_name_0 : decode cX8_name 0 = .ok (.lconst 0, 1) := by decide +kernel
theorem dX8_name_1 : decode cX8_name 1 = .ok (.lstore_n 1, 1) := by decide +kernel
theorem dX8_name_2 : decode cX8_name 2 = .ok (.aload_n 0, 1) := by decide +kernel
theorem dX8_name_3 : decode cX8_name 3 = .ok (.getfield 91, 3) := by decide +kernel
theorem dX8_name_6 : decode cX8_name 6 = .ok (.istore_n 3, 1) := by decide +kernel
theorem dX8_name_7 : decode cX8_name 7 = .ok (.iload_n 3, 1) := by decide +kernel
theorem dX8_name_8 : decode cX8_name 8 = .ok (.aload_n 0, 1) := by decide +kernel
theorem dX8_name_9 : decode cX8_name 9 = .ok (.getfield 103, 3) := by decide +kernel
theorem dX8_name_12 : decode cX8_name 12 = .ok (.if_icmp .ge 44, 3) := by decide +kernel
theorem dX8_name_15 : decode cX8_name 15 = .ok (.aload_n 0, 1) := by decide +kernel
theorem dX8_name_16 : decode cX8_name 16 = .ok (.getfield 94, 3) := by decide +kernel
theorem dX8_name_19 : decode cX8_name 19 = .ok (.iconst 2, 1) := by decide +kernel
theorem dX8_name_20 : decode cX8_name 20 = .ok (.if_icmp .ne 36, 3) := by decide +kernel
theorem dX8_name_23 : decode cX8_name 23 = .ok (.aload_n 0, 1) := by decide +kernel
theorem dX8_name_24 : decode cX8_name 24 = .ok (.getfield 103, 3) := by decide +kernel
theorem dX8_name_27 : decode cX8_name 27 = .ok (.aload_n 0, 1) := by decide +kernel
theorem dX8_name_28 : decode cX8_name 28 = .ok (.getfield 91, 3) := by decide +kernel
theorem dX8_name_31 : decode cX8_name 31 = .ok (.isub, 1) := by decide +kernel
theorem dX8_name_32 : decode cX8_name 32 = .ok (.bipush 8, 2) := by decide +kernel
theorem dX8_name_34 : decode cX8_name 34 = .ok (.if_icmp .ge 22, 3) := by decide +kernel
theorem dX8_name_37 : decode cX8_name 37 = .ok (.lload_n 1, 1) := by decide +kernel
theorem dX8_name_38 : decode cX8_name 38 = .ok (.bipush 8, 2) := by decide +kernel
theorem dX8_name_40 : decode cX8_name 40 = .ok (.lshl, 1) := by decide +kernel
theorem dX8_name_41 : decode cX8_name 41 = .ok (.aload_n 0, 1) := by decide +kernel
theorem dX8_name_42 : decode cX8_name 42 = .ok (.getfield 28, 3) := by decide +kernel
theorem dX8_name_45 : decode cX8_name 45 = .ok (.iload_n 3, 1) := by decide +kernel
theorem dX8_name_46 : decode cX8_name 46 = .ok (.iaload, 1) := by decide +kernel
theorem dX8_name_47 : decode cX8_name 47 = .ok (.i2l, 1) := by decide +kernel
theorem dX8_name_48 : decode cX8_name 48 = .ok (.lor, 1) := by decide +kernel
theorem dX8_name_49 : decode cX8_name 49 = .ok (.lstore_n 1, 1) := by decide +kernel
theorem dX8_name_50 : decode cX8_name 50 = .ok (.iinc 3 1, 3) := by decide +kernel
theorem dX8_name_53 : decode cX8_name 53 = .ok (.goto (-46), 3) := by decide +kernel
theorem dX8_name_56 : decode cX8_name 56 = .ok (.aload_n 0, 1) := by decide +kernel
theorem dX8_name_57 : decode cX8_name 57 = .ok (.getfield 106, 3) := by decide +kernel
theorem dX8_name_60 : decode cX8_name 60 = .ok (.ifCond .ne 7, 3) := by decide +kernel
theorem dX8_name_63 : decode cX8_name 63 = .ok (.lload_n 1, 1) := by decide +kernel
theorem dX8_name_64 : decode cX8_name 64 = .ok (.goto 4, 3) := by decide +kernel
theorem dX8_name_67 : decode cX8_name 67 = .ok (.lconst 0, 1) := by decide +kernel
theorem dX8_name_68 : decode cX8_name 68 = .ok (.lreturn, 1) := by decide +kernel
theorem dX8_figures_0 : decode cX8_figures 0 = .ok (.iconst 0, 1) := by decide +kernel
theorem dX8_figures_1 : decode cX8_figures 1 = .ok (.istore_n 1, 1) := by decide +kernel
theorem dX8_figures_2 : decode cX8_figures 2 = .ok (.aload_n 0, 1) := by decide +kernel
theorem dX8_figures_3 : decode cX8_figures 3 = .ok (.getfield 91, 3) := by decide +kernel
theorem dX8_figures_6 : decode cX8_figures 6 = .ok (.istore_n 2, 1) := by decide +kernel
theorem dX8_figures_7 : decode cX8_figures 7 = .ok (.iload_n 2, 1) := by decide +kernel
theorem dX8_figures_8 : decode cX8_figures 8 = .ok (.aload_n 0, 1) := by decide +kernel
theorem dX8_figures_9 : decode cX8_figures 9 = .ok (.getfield 103, 3) := by decide +kernel
theorem dX8_figures_12 : decode cX8_figures 12 = .ok (.if_icmp .ge 32, 3) := by decide +kernel
theorem dX8_figures_15 : decode cX8_figures 15 = .ok (.aload_n 0, 1) := by decide +kernel
theorem dX8_figures_16 : decode cX8_figures 16 = .ok (.getfield 94, 3) := by decide +kernel
theorem dX8_figures_19 : decode cX8_figures 19 = .ok (.iconst 3, 1) := by decide +kernel
theorem dX8_figures_20 : decode cX8_figures 20 = .ok (.if_icmp .ne 24, 3) := by decide +kernel
theorem dX8_figures_23 : decode cX8_figures 23 = .ok (.bipush 10, 2) := by decide +kernel
theorem dX8_figures_25 : decode cX8_figures 25 = .ok (.iload_n 1, 1) := by decide +kernel
theorem dX8_figures_26 : decode cX8_figures 26 = .ok (.imul, 1) := by decide +kernel
theorem dX8_figures_27 : decode cX8_figures 27 = .ok (.aload_n 0, 1) := by decide +kernel
theorem dX8_figures_28 : decode cX8_figures 28 = .ok (.getfield 28, 3) := by decide +kernel
theorem dX8_figures_31 : decode cX8_figures 31 = .ok (.iload_n 2, 1) := by decide +kernel
theorem dX8_figures_32 : decode cX8_figures 32 = .ok (.iaload, 1) := by decide +kernel
theorem dX8_figures_33 : decode cX8_figures 33 = .ok (.iadd, 1) := by decide +kernel
theorem dX8_figures_34 : decode cX8_figures 34 = .ok (.bipush 48, 2) := by decide +kernel
theorem dX8_figures_36 : decode cX8_figures 36 = .ok (.isub, 1) := by decide +kernel
theorem dX8_figures_37 : decode cX8_figures 37 = .ok (.istore_n 1, 1) := by decide +kernel
theorem dX8_figures_38 : decode cX8_figures 38 = .ok (.iinc 2 1, 3) := by decide +kernel
theorem dX8_figures_41 : decode cX8_figures 41 = .ok (.goto (-34), 3) := by decide +kernel
theorem dX8_figures_44 : decode cX8_figures 44 = .ok (.iload_n 1, 1) := by decide +kernel
theorem dX8_figures_45 : decode cX8_figures 45 = .ok (.ireturn, 1) := by decide +kernel
theorem dX8_number_0 : decode cX8_number 0 = .ok (.aload_n 0, 1) := by decide +kernel
theorem dX8_number_1 : decode cX8_number 1 = .ok (.getfield 106, 3) := by decide +kernel
theorem dX8_number_4 : decode cX8_number 4 = .ok (.ifCond .le 5, 3) := by decide +kernel
theorem dX8_number_7 : decode cX8_number 7 = .ok (.iconst 0, 1) := by decide +kernel
theorem dX8_number_8 : decode cX8_number 8 = .ok (.ireturn, 1) := by decide +kernel
theorem dX8_number_9 : decode cX8_number 9 = .ok (.aload_n 0, 1) := by decide +kernel
theorem dX8_number_10 : decode cX8_number 10 = .ok (.invokevirtual 119, 3) := by decide +kernel
theorem dX8_number_13 : decode cX8_number 13 = .ok (.istore_n 3, 1) := by decide +kernel
theorem dX8_number_14 : decode cX8_number 14 = .ok (.aload_n 0, 1) := by decide +kernel
theorem dX8_number_15 : decode cX8_number 15 = .ok (.getfield 94, 3) := by decide +kernel
theorem dX8_number_18 : decode cX8_number 18 = .ok (.iconst 3, 1) := by decide +kernel
theorem dX8_number_19 : decode cX8_number 19 = .ok (.if_icmp .ne 20, 3) := by decide +kernel
theorem dX8_number_22 : decode cX8_number 22 = .ok (.iload_n 3, 1) := by decide +kernel
theorem dX8_number_23 : decode cX8_number 23 = .ok (.i2l, 1) := by decide +kernel
theorem dX8_number_24 : decode cX8_number 24 = .ok (.iload_n 1, 1) := by decide +kernel
theorem dX8_number_25 : decode cX8_number 25 = .ok (.i2l, 1) := by decide +kernel
theorem dX8_number_26 : decode cX8_number 26 = .ok (.iload_n 2, 1) := by decide +kernel
theorem dX8_number_27 : decode cX8_number 27 = .ok (.i2l, 1) := by decide +kernel
theorem dX8_number_28 : decode cX8_number 28 = .ok (.invokestatic 58, 3) := by decide +kernel
theorem dX8_number_31 : decode cX8_number 31 = .ok (.ifCond .ne 8, 3) := by decide +kernel
theorem dX8_number_34 : decode cX8_number 34 = .ok (.aload_n 0, 1) := by decide +kernel
theorem dX8_number_35 : decode cX8_number 35 = .ok (.iconst 2, 1) := by decide +kernel
theorem dX8_number_36 : decode cX8_number 36 = .ok (.invokevirtual 115, 3) := by decide +kernel
theorem dX8_number_39 : decode cX8_number 39 = .ok (.aload_n 0, 1) := by decide +kernel
theorem dX8_number_40 : decode cX8_number 40 = .ok (.aload_n 0, 1) := by decide +kernel
theorem dX8_number_41 : decode cX8_number 41 = .ok (.getfield 94, 3) := by decide +kernel
theorem dX8_number_44 : decode cX8_number 44 = .ok (.iconst 3, 1) := by decide +kernel
theorem dX8_number_45 : decode cX8_number 45 = .ok (.if_icmp .ne 7, 3) := by decide +kernel
theorem dX8_number_48 : decode cX8_number 48 = .ok (.iconst 1, 1) := by decide +kernel
theorem dX8_number_49 : decode cX8_number 49 = .ok (.goto 4, 3) := by decide +kernel
theorem dX8_number_52 : decode cX8_number 52 = .ok (.iconst 0, 1) := by decide +kernel
theorem dX8_number_53 : decode cX8_number 53 = .ok (.invokevirtual 123, 3) := by decide +kernel
theorem dX8_number_56 : decode cX8_number 56 = .ok (.iload_n 3, 1) := by decide +kernel
theorem dX8_number_57 : decode cX8_number 57 = .ok (.ireturn, 1) := by decide +kernel
theorem dX8_kindBy_0 : decode cX8_kindBy 0 = .ok (.lload_n 0, 1) := by decide +kernel
theorem dX8_kindBy_1 : decode cX8_kindBy 1 = .ok (.ldc2_w 127, 3) := by decide +kernel
theorem dX8_kindBy_4 : decode cX8_kindBy 4 = .ok (.lcmp, 1) := by decide +kernel
theorem dX8_kindBy_5 : decode cX8_kindBy 5 = .ok (.ifCond .ne 7, 3) := by decide +kernel
theorem dX8_kindBy_8 : decode cX8_kindBy 8 = .ok (.iconst 1, 1) := by decide +kernel
theorem dX8_kindBy_9 : decode cX8_kindBy 9 = .ok (.goto 53, 3) := by decide +kernel
theorem dX8_kindBy_12 : decode cX8_kindBy 12 = .ok (.lload_n 0, 1) := by decide +kernel
theorem dX8_kindBy_13 : decode cX8_kindBy 13 = .ok (.ldc2_w 129, 3) := by decide +kernel
theorem dX8_kindBy_16 : decode cX8_kindBy 16 = .ok (.lcmp, 1) := by decide +kernel
theorem dX8_kindBy_17 : decode cX8_kindBy 17 = .ok (.ifCond .ne 7, 3) := by decide +kernel
theorem dX8_kindBy_20 : decode cX8_kindBy 20 = .ok (.iconst 2, 1) := by decide +kernel
theorem dX8_kindBy_21 : decode cX8_kindBy 21 = .ok (.goto 41, 3) := by decide +kernel
theorem dX8_kindBy_24 : decode cX8_kindBy 24 = .ok (.lload_n 0, 1) := by decide +kernel
theorem dX8_kindBy_25 : decode cX8_kindBy 25 = .ok (.ldc2_w 131, 3) := by decide +kernel
theorem dX8_kindBy_28 : decode cX8_kindBy 28 = .ok (.lcmp, 1) := by decide +kernel
theorem dX8_kindBy_29 : decode cX8_kindBy 29 = .ok (.ifCond .ne 7, 3) := by decide +kernel
theorem dX8_kindBy_32 : decode cX8_kindBy 32 = .ok (.iconst 3, 1) := by decide +kernel
theorem dX8_kindBy_33 : decode cX8_kindBy 33 = .ok (.goto 29, 3) := by decide +kernel
theorem dX8_kindBy_36 : decode cX8_kindBy 36 = .ok (.lload_n 0, 1) := by decide +kernel
theorem dX8_kindBy_37 : decode cX8_kindBy 37 = .ok (.ldc2_w 133, 3) := by decide +kernel
theorem dX8_kindBy_40 : decode cX8_kindBy 40 = .ok (.lcmp, 1) := by decide +kernel
theorem dX8_kindBy_41 : decode cX8_kindBy 41 = .ok (.ifCond .ne 7, 3) := by decide +kernel
theorem dX8_kindBy_44 : decode cX8_kindBy 44 = .ok (.iconst 4, 1) := by decide +kernel
theorem dX8_kindBy_45 : decode cX8_kindBy 45 = .ok (.goto 17, 3) := by decide +kernel
theorem dX8_kindBy_48 : decode cX8_kindBy 48 = .ok (.lload_n 0, 1) := by decide +kernel
theorem dX8_kindBy_49 : decode cX8_kindBy 49 = .ok (.ldc2_w 135, 3) := by decide +kernel
theorem dX8_kindBy_52 : decode cX8_kindBy 52 = .ok (.lcmp, 1) := by decide +kernel
theorem dX8_kindBy_53 : decode cX8_kindBy 53 = .ok (.ifCond .ne 7, 3) := by decide +kernel
theorem dX8_kindBy_56 : decode cX8_kindBy 56 = .ok (.iconst 5, 1) := by decide +kernel
theorem dX8_kindBy_57 : decode cX8_kindBy 57 = .ok (.goto 5, 3) := by decide +kernel
theorem dX8_kindBy_60 : decode cX8_kindBy 60 = .ok (.ldc 84, 2) := by decide +kernel
theorem dX8_kindBy_62 : decode cX8_kindBy 62 = .ok (.ireturn, 1) := by decide +kernel
theorem dX8_mustEnd_0 : decode cX8_mustEnd 0 = .ok (.aload_n 0, 1) := by decide +kernel
theorem dX8_mustEnd_1 : decode cX8_mustEnd 1 = .ok (.getfield 106, 3) := by decide +kernel
theorem dX8_mustEnd_4 : decode cX8_mustEnd 4 = .ok (.ifCond .ne 20, 3) := by decide +kernel
theorem dX8_mustEnd_7 : decode cX8_mustEnd 7 = .ok (.aload_n 0, 1) := by decide +kernel
theorem dX8_mustEnd_8 : decode cX8_mustEnd 8 = .ok (.aload_n 0, 1) := by decide +kernel
theorem dX8_mustEnd_9 : decode cX8_mustEnd 9 = .ok (.getfield 94, 3) := by decide +kernel
theorem dX8_mustEnd_12 : decode cX8_mustEnd 12 = .ok (.iconst 4, 1) := by decide +kernel
theorem dX8_mustEnd_13 : decode cX8_mustEnd 13 = .ok (.if_icmp .ne 7, 3) := by decide +kernel
theorem dX8_mustEnd_16 : decode cX8_mustEnd 16 = .ok (.iconst 1, 1) := by decide +kernel
theorem dX8_mustEnd_17 : decode cX8_mustEnd 17 = .ok (.goto 4, 3) := by decide +kernel
theorem dX8_mustEnd_20 : decode cX8_mustEnd 20 = .ok (.iconst 0, 1) := by decide +kernel
theorem dX8_mustEnd_21 : decode cX8_mustEnd 21 = .ok (.invokevirtual 123, 3) := by decide +kernel
theorem dX8_mustEnd_24 : decode cX8_mustEnd 24 = .ok (.return_, 1) := by decide +kernel
theorem dX8_begins_0 : decode cX8_begins 0 = .ok (.aload_n 0, 1) := by decide +kernel
theorem dX8_begins_1 : decode cX8_begins 1 = .ok (.getfield 22, 3) := by decide +kernel
theorem dX8_begins_4 : decode cX8_begins 4 = .ok (.iload_n 1, 1) := by decide +kernel
theorem dX8_begins_5 : decode cX8_begins 5 = .ok (.iaload, 1) := by decide +kernel
theorem dX8_begins_6 : decode cX8_begins 6 = .ok (.iload_n 2, 1) := by decide +kernel
theorem dX8_begins_7 : decode cX8_begins 7 = .ok (.if_icmp .ne 8, 3) := by decide +kernel
theorem dX8_begins_10 : decode cX8_begins 10 = .ok (.aload_n 0, 1) := by decide +kernel
theorem dX8_begins_11 : decode cX8_begins 11 = .ok (.iconst 3, 1) := by decide +kernel
theorem dX8_begins_12 : decode cX8_begins 12 = .ok (.invokevirtual 115, 3) := by decide +kernel
theorem dX8_begins_15 : decode cX8_begins 15 = .ok (.aload_n 0, 1) := by decide +kernel
theorem dX8_begins_16 : decode cX8_begins 16 = .ok (.iconst 1, 1) := by decide +kernel
theorem dX8_begins_17 : decode cX8_begins 17 = .ok (.invokevirtual 123, 3) := by decide +kernel
theorem dX8_begins_20 : decode cX8_begins 20 = .ok (.return_, 1) := by decide +kernel
theorem dX8_readWay_0 : decode cX8_readWay 0 = .ok (.aload_n 0, 1) := by decide +kernel
theorem dX8_readWay_1 : decode cX8_readWay 1 = .ok (.iconst 2, 1) := by decide +kernel
theorem dX8_readWay_2 : decode cX8_readWay 2 = .ok (.bipush 8, 2) := by decide +kernel
theorem dX8_readWay_4 : decode cX8_readWay 4 = .ok (.invokevirtual 137, 3) := by decide +kernel
theorem dX8_readWay_7 : decode cX8_readWay 7 = .ok (.aload_n 0, 1) := by decide +kernel
theorem dX8_readWay_8 : decode cX8_readWay 8 = .ok (.iconst 0, 1) := by decide +kernel
theorem dX8_readWay_9 : decode cX8_readWay 9 = .ok (.aload_n 0, 1) := by decide +kernel
theorem dX8_readWay_10 : decode cX8_readWay 10 = .ok (.getfield 22, 3) := by decide +kernel
theorem dX8_readWay_13 : decode cX8_readWay 13 = .ok (.iconst 0, 1) := by decide +kernel
theorem dX8_readWay_14 : decode cX8_readWay 14 = .ok (.iaload, 1) := by decide +kernel
theorem dX8_readWay_15 : decode cX8_readWay 15 = .ok (.iconst 1, 1) := by decide +kernel
theorem dX8_readWay_16 : decode cX8_readWay 16 = .ok (.isub, 1) := by decide +kernel
theorem dX8_readWay_17 : decode cX8_readWay 17 = .ok (.invokevirtual 141, 3) := by decide +kernel
theorem dX8_readWay_20 : decode cX8_readWay 20 = .ok (.istore_n 1, 1) := by decide +kernel
theorem dX8_readWay_21 : decode cX8_readWay 21 = .ok (.aload_n 0, 1) := by decide +kernel
theorem dX8_readWay_22 : decode cX8_readWay 22 = .ok (.getfield 106, 3) := by decide +kernel
theorem dX8_readWay_25 : decode cX8_readWay 25 = .ok (.ifCond .ne 24, 3) := by decide +kernel
theorem dX8_readWay_28 : decode cX8_readWay 28 = .ok (.aload_n 0, 1) := by decide +kernel
theorem dX8_readWay_29 : decode cX8_readWay 29 = .ok (.getfield 94, 3) := by decide +kernel
theorem dX8_readWay_32 : decode cX8_readWay 32 = .ok (.iconst 3, 1) := by decide +kernel
theorem dX8_readWay_33 : decode cX8_readWay 33 = .ok (.if_icmp .ne 16, 3) := by decide +kernel
theorem dX8_readWay_36 : decode cX8_readWay 36 = .ok (.aload_n 0, 1) := by decide +kernel
theorem dX8_readWay_37 : decode cX8_readWay 37 = .ok (.invokevirtual 119, 3) := by decide +kernel
theorem dX8_readWay_40 : decode cX8_readWay 40 = .ok (.iload_n 1, 1) := by decide +kernel
theorem dX8_readWay_41 : decode cX8_readWay 41 = .ok (.if_icmp .ne 8, 3) := by decide +kernel
theorem dX8_readWay_44 : decode cX8_readWay 44 = .ok (.aload_n 0, 1) := by decide +kernel
theorem dX8_readWay_45 : decode cX8_readWay 45 = .ok (.iconst 2, 1) := by decide +kernel
theorem dX8_readWay_46 : decode cX8_readWay 46 = .ok (.invokevirtual 115, 3) := by decide +kernel
theorem dX8_readWay_49 : decode cX8_readWay 49 = .ok (.aload_n 0, 1) := by decide +kernel
theorem dX8_readWay_50 : decode cX8_readWay 50 = .ok (.iconst 0, 1) := by decide +kernel
theorem dX8_readWay_51 : decode cX8_readWay 51 = .ok (.aload_n 0, 1) := by decide +kernel
theorem dX8_readWay_52 : decode cX8_readWay 52 = .ok (.getfield 22, 3) := by decide +kernel
theorem dX8_readWay_55 : decode cX8_readWay 55 = .ok (.iconst 0, 1) := by decide +kernel
theorem dX8_readWay_56 : decode cX8_readWay 56 = .ok (.iaload, 1) := by decide +kernel
theorem dX8_readWay_57 : decode cX8_readWay 57 = .ok (.iconst 1, 1) := by decide +kernel
theorem dX8_readWay_58 : decode cX8_readWay 58 = .ok (.isub, 1) := by decide +kernel
theorem dX8_readWay_59 : decode cX8_readWay 59 = .ok (.invokevirtual 141, 3) := by decide +kernel
theorem dX8_readWay_62 : decode cX8_readWay 62 = .ok (.istore_n 2, 1) := by decide +kernel
theorem dX8_readWay_63 : decode cX8_readWay 63 = .ok (.aload_n 0, 1) := by decide +kernel
theorem dX8_readWay_64 : decode cX8_readWay 64 = .ok (.iconst 1, 1) := by decide +kernel
theorem dX8_readWay_65 : decode cX8_readWay 65 = .ok (.bipush 20, 2) := by decide +kernel
theorem dX8_readWay_67 : decode cX8_readWay 67 = .ok (.invokevirtual 141, 3) := by decide +kernel
theorem dX8_readWay_70 : decode cX8_readWay 70 = .ok (.istore_n 3, 1) := by decide +kernel
theorem dX8_readWay_71 : decode cX8_readWay 71 = .ok (.aload_n 0, 1) := by decide +kernel
theorem dX8_readWay_72 : decode cX8_readWay 72 = .ok (.iconst 0, 1) := by decide +kernel
theorem dX8_readWay_73 : decode cX8_readWay 73 = .ok (.iload_n 3, 1) := by decide +kernel
theorem dX8_readWay_74 : decode cX8_readWay 74 = .ok (.invokevirtual 141, 3) := by decide +kernel
theorem dX8_readWay_77 : decode cX8_readWay 77 = .ok (.istore 4, 2) := by decide +kernel
theorem dX8_readWay_79 : decode cX8_readWay 79 = .ok (.aload_n 0, 1) := by decide +kernel
theorem dX8_readWay_80 : decode cX8_readWay 80 = .ok (.invokevirtual 145, 3) := by decide +kernel
theorem dX8_readWay_83 : decode cX8_readWay 83 = .ok (.aload_n 0, 1) := by decide +kernel
theorem dX8_readWay_84 : decode cX8_readWay 84 = .ok (.getfield 106, 3) := by decide +kernel
theorem dX8_readWay_87 : decode cX8_readWay 87 = .ok (.ifCond .ne 64, 3) := by decide +kernel
theorem dX8_readWay_90 : decode cX8_readWay 90 = .ok (.iconst 4, 1) := by decide +kernel
theorem dX8_readWay_91 : decode cX8_readWay 91 = .ok (.iconst 4, 1) := by decide +kernel
theorem dX8_readWay_92 : decode cX8_readWay 92 = .ok (.aload_n 0, 1) := by decide +kernel
theorem dX8_readWay_93 : decode cX8_readWay 93 = .ok (.getfield 22, 3) := by decide +kernel
theorem dX8_readWay_96 : decode cX8_readWay 96 = .ok (.iconst 2, 1) := by decide +kernel
theorem dX8_readWay_97 : decode cX8_readWay 97 = .ok (.iaload, 1) := by decide +kernel
theorem dX8_readWay_98 : decode cX8_readWay 98 = .ok (.imul, 1) := by decide +kernel
theorem dX8_readWay_99 : decode cX8_readWay 99 = .ok (.iadd, 1) := by decide +kernel
theorem dX8_readWay_100 : decode cX8_readWay 100 = .ok (.istore 5, 2) := by decide +kernel
theorem dX8_readWay_102 : decode cX8_readWay 102 = .ok (.aload_n 0, 1) := by decide +kernel
theorem dX8_readWay_103 : decode cX8_readWay 103 = .ok (.getfield 22, 3) := by decide +kernel
theorem dX8_readWay_106 : decode cX8_readWay 106 = .ok (.iload 5, 2) := by decide +kernel
theorem dX8_readWay_108 : decode cX8_readWay 108 = .ok (.iload_n 1, 1) := by decide +kernel
theorem dX8_readWay_109 : decode cX8_readWay 109 = .ok (.iastore, 1) := by decide +kernel
theorem dX8_readWay_110 : decode cX8_readWay 110 = .ok (.aload_n 0, 1) := by decide +kernel
theorem dX8_readWay_111 : decode cX8_readWay 111 = .ok (.getfield 22, 3) := by decide +kernel
theorem dX8_readWay_114 : decode cX8_readWay 114 = .ok (.iload 5, 2) := by decide +kernel
theorem dX8_readWay_116 : decode cX8_readWay 116 = .ok (.iconst 1, 1) := by decide +kernel
theorem dX8_readWay_117 : decode cX8_readWay 117 = .ok (.iadd, 1) := by decide +kernel
theorem dX8_readWay_118 : decode cX8_readWay 118 = .ok (.iload_n 2, 1) := by decide +kernel
theorem dX8_readWay_119 : decode cX8_readWay 119 = .ok (.iastore, 1) := by decide +kernel
theorem dX8_readWay_120 : decode cX8_readWay 120 = .ok (.aload_n 0, 1) := by decide +kernel
theorem dX8_readWay_121 : decode cX8_readWay 121 = .ok (.getfield 22, 3) := by decide +kernel
theorem dX8_readWay_124 : decode cX8_readWay 124 = .ok (.iload 5, 2) := by decide +kernel
theorem dX8_readWay_126 : decode cX8_readWay 126 = .ok (.iconst 2, 1) := by decide +kernel
theorem dX8_readWay_127 : decode cX8_readWay 127 = .ok (.iadd, 1) := by decide +kernel
theorem dX8_readWay_128 : decode cX8_readWay 128 = .ok (.iload_n 3, 1) := by decide +kernel
theorem dX8_readWay_129 : decode cX8_readWay 129 = .ok (.iastore, 1) := by decide +kernel
theorem dX8_readWay_130 : decode cX8_readWay 130 = .ok (.aload_n 0, 1) := by decide +kernel
theorem dX8_readWay_131 : decode cX8_readWay 131 = .ok (.getfield 22, 3) := by decide +kernel
theorem dX8_readWay_134 : decode cX8_readWay 134 = .ok (.iload 5, 2) := by decide +kernel
theorem dX8_readWay_136 : decode cX8_readWay 136 = .ok (.iconst 3, 1) := by decide +kernel
theorem dX8_readWay_137 : decode cX8_readWay 137 = .ok (.iadd, 1) := by decide +kernel
theorem dX8_readWay_138 : decode cX8_readWay 138 = .ok (.iload 4, 2) := by decide +kernel
theorem dX8_readWay_140 : decode cX8_readWay 140 = .ok (.iastore, 1) := by decide +kernel
theorem dX8_readWay_141 : decode cX8_readWay 141 = .ok (.aload_n 0, 1) := by decide +kernel
theorem dX8_readWay_142 : decode cX8_readWay 142 = .ok (.getfield 22, 3) := by decide +kernel
theorem dX8_readWay_145 : decode cX8_readWay 145 = .ok (.iconst 2, 1) := by decide +kernel
theorem dX8_readWay_146 : decode cX8_readWay 146 = .ok (.dup2, 1) := by decide +kernel
theorem dX8_readWay_147 : decode cX8_readWay 147 = .ok (.iaload, 1) := by decide +kernel
theorem dX8_readWay_148 : decode cX8_readWay 148 = .ok (.iconst 1, 1) := by decide +kernel
theorem dX8_readWay_149 : decode cX8_readWay 149 = .ok (.iadd, 1) := by decide +kernel
theorem dX8_readWay_150 : decode cX8_readWay 150 = .ok (.iastore, 1) := by decide +kernel
theorem dX8_readWay_151 : decode cX8_readWay 151 = .ok (.return_, 1) := by decide +kernel
theorem dX8_readPerson_0 : decode cX8_readPerson 0 = .ok (.aload_n 0, 1) := by decide +kernel
theorem dX8_readPerson_1 : decode cX8_readPerson 1 = .ok (.iconst 3, 1) := by decide +kernel
theorem dX8_readPerson_2 : decode cX8_readPerson 2 = .ok (.iconst 4, 1) := by decide +kernel
theorem dX8_readPerson_3 : decode cX8_readPerson 3 = .ok (.invokevirtual 137, 3) := by decide +kernel
theorem dX8_readPerson_6 : decode cX8_readPerson 6 = .ok (.aload_n 0, 1) := by decide +kernel
theorem dX8_readPerson_7 : decode cX8_readPerson 7 = .ok (.invokevirtual 148, 3) := by decide +kernel
theorem dX8_readPerson_10 : decode cX8_readPerson 10 = .ok (.invokestatic 152, 3) := by decide +kernel
theorem dX8_readPerson_13 : decode cX8_readPerson 13 = .ok (.istore_n 1, 1) := by decide +kernel
theorem dX8_readPerson_14 : decode cX8_readPerson 14 = .ok (.aload_n 0, 1) := by decide +kernel
theorem dX8_readPerson_15 : decode cX8_readPerson 15 = .ok (.getfield 106, 3) := by decide +kernel
theorem dX8_readPerson_18 : decode cX8_readPerson 18 = .ok (.ifCond .ne 18, 3) := by decide +kernel
theorem dX8_readPerson_21 : decode cX8_readPerson 21 = .ok (.aload_n 0, 1) := by decide +kernel
theorem dX8_readPerson_22 : decode cX8_readPerson 22 = .ok (.iload_n 1, 1) := by decide +kernel
theorem dX8_readPerson_23 : decode cX8_readPerson 23 = .ok (.ldc 84, 2) := by decide +kernel
theorem dX8_readPerson_25 : decode cX8_readPerson 25 = .ok (.if_icmp .eq 7, 3) := by decide +kernel
theorem dX8_readPerson_28 : decode cX8_readPerson 28 = .ok (.iconst 1, 1) := by decide +kernel
theorem dX8_readPerson_29 : decode cX8_readPerson 29 = .ok (.goto 4, 3) := by decide +kernel
theorem dX8_readPerson_32 : decode cX8_readPerson 32 = .ok (.iconst 0, 1) := by decide +kernel
theorem dX8_readPerson_33 : decode cX8_readPerson 33 = .ok (.invokevirtual 123, 3) := by decide +kernel
theorem dX8_readPerson_36 : decode cX8_readPerson 36 = .ok (.aload_n 0, 1) := by decide +kernel
theorem dX8_readPerson_37 : decode cX8_readPerson 37 = .ok (.iconst 0, 1) := by decide +kernel
theorem dX8_readPerson_38 : decode cX8_readPerson 38 = .ok (.aload_n 0, 1) := by decide +kernel
theorem dX8_readPerson_39 : decode cX8_readPerson 39 = .ok (.getfield 22, 3) := by decide +kernel
theorem dX8_readPerson_42 : decode cX8_readPerson 42 = .ok (.iconst 0, 1) := by decide +kernel
theorem dX8_readPerson_43 : decode cX8_readPerson 43 = .ok (.iaload, 1) := by decide +kernel
theorem dX8_readPerson_44 : decode cX8_readPerson 44 = .ok (.iconst 1, 1) := by decide +kernel
theorem dX8_readPerson_45 : decode cX8_readPerson 45 = .ok (.isub, 1) := by decide +kernel
theorem dX8_readPerson_46 : decode cX8_readPerson 46 = .ok (.invokevirtual 141, 3) := by decide +kernel
theorem dX8_readPerson_49 : decode cX8_readPerson 49 = .ok (.istore_n 2, 1) := by decide +kernel
theorem dX8_readPerson_50 : decode cX8_readPerson 50 = .ok (.aload_n 0, 1) := by decide +kernel
theorem dX8_readPerson_51 : decode cX8_readPerson 51 = .ok (.iconst 0, 1) := by decide +kernel
theorem dX8_readPerson_52 : decode cX8_readPerson 52 = .ok (.bipush 99, 2) := by decide +kernel
theorem dX8_readPerson_54 : decode cX8_readPerson 54 = .ok (.invokevirtual 141, 3) := by decide +kernel
theorem dX8_readPerson_57 : decode cX8_readPerson 57 = .ok (.istore_n 3, 1) := by decide +kernel
theorem dX8_readPerson_58 : decode cX8_readPerson 58 = .ok (.aload_n 0, 1) := by decide +kernel
theorem dX8_readPerson_59 : decode cX8_readPerson 59 = .ok (.invokevirtual 145, 3) := by decide +kernel
theorem dX8_readPerson_62 : decode cX8_readPerson 62 = .ok (.aload_n 0, 1) := by decide +kernel
theorem dX8_readPerson_63 : decode cX8_readPerson 63 = .ok (.getfield 106, 3) := by decide +kernel
theorem dX8_readPerson_66 : decode cX8_readPerson 66 = .ok (.ifCond .ne 65, 3) := by decide +kernel
theorem dX8_readPerson_69 : decode cX8_readPerson 69 = .ok (.bipush 36, 2) := by decide +kernel
theorem dX8_readPerson_71 : decode cX8_readPerson 71 = .ok (.bipush 8, 2) := by decide +kernel
theorem dX8_readPerson_73 : decode cX8_readPerson 73 = .ok (.aload_n 0, 1) := by decide +kernel
theorem dX8_readPerson_74 : decode cX8_readPerson 74 = .ok (.getfield 22, 3) := by decide +kernel
theorem dX8_readPerson_77 : decode cX8_readPerson 77 = .ok (.iconst 3, 1) := by decide +kernel
theorem dX8_readPerson_78 : decode cX8_readPerson 78 = .ok (.iaload, 1) := by decide +kernel
theorem dX8_readPerson_79 : decode cX8_readPerson 79 = .ok (.imul, 1) := by decide +kernel
theorem dX8_readPerson_80 : decode cX8_readPerson 80 = .ok (.iadd, 1) := by decide +kernel
theorem dX8_readPerson_81 : decode cX8_readPerson 81 = .ok (.istore 4, 2) := by decide +kernel
theorem dX8_readPerson_83 : decode cX8_readPerson 83 = .ok (.aload_n 0, 1) := by decide +kernel
theorem dX8_readPerson_84 : decode cX8_readPerson 84 = .ok (.getfield 22, 3) := by decide +kernel
theorem dX8_readPerson_87 : decode cX8_readPerson 87 = .ok (.iload 4, 2) := by decide +kernel
theorem dX8_readPerson_89 : decode cX8_readPerson 89 = .ok (.iload_n 1, 1) := by decide +kernel
theorem dX8_readPerson_90 : decode cX8_readPerson 90 = .ok (.iastore, 1) := by decide +kernel
theorem dX8_readPerson_91 : decode cX8_readPerson 91 = .ok (.aload_n 0, 1) := by decide +kernel
theorem dX8_readPerson_92 : decode cX8_readPerson 92 = .ok (.getfield 22, 3) := by decide +kernel
theorem dX8_readPerson_95 : decode cX8_readPerson 95 = .ok (.iload 4, 2) := by decide +kernel
theorem dX8_readPerson_97 : decode cX8_readPerson 97 = .ok (.iconst 1, 1) := by decide +kernel
theorem dX8_readPerson_98 : decode cX8_readPerson 98 = .ok (.iadd, 1) := by decide +kernel
theorem dX8_readPerson_99 : decode cX8_readPerson 99 = .ok (.iload_n 2, 1) := by decide +kernel
theorem dX8_readPerson_100 : decode cX8_readPerson 100 = .ok (.iastore, 1) := by decide +kernel
theorem dX8_readPerson_101 : decode cX8_readPerson 101 = .ok (.aload_n 0, 1) := by decide +kernel
theorem dX8_readPerson_102 : decode cX8_readPerson 102 = .ok (.getfield 22, 3) := by decide +kernel
theorem dX8_readPerson_105 : decode cX8_readPerson 105 = .ok (.iload 4, 2) := by decide +kernel
theorem dX8_readPerson_107 : decode cX8_readPerson 107 = .ok (.iconst 2, 1) := by decide +kernel
theorem dX8_readPerson_108 : decode cX8_readPerson 108 = .ok (.iadd, 1) := by decide +kernel
theorem dX8_readPerson_109 : decode cX8_readPerson 109 = .ok (.iload_n 3, 1) := by decide +kernel
theorem dX8_readPerson_110 : decode cX8_readPerson 110 = .ok (.iastore, 1) := by decide +kernel
theorem dX8_readPerson_111 : decode cX8_readPerson 111 = .ok (.aload_n 0, 1) := by decide +kernel
theorem dX8_readPerson_112 : decode cX8_readPerson 112 = .ok (.getfield 22, 3) := by decide +kernel
theorem dX8_readPerson_115 : decode cX8_readPerson 115 = .ok (.iload 4, 2) := by decide +kernel
theorem dX8_readPerson_117 : decode cX8_readPerson 117 = .ok (.iconst 4, 1) := by decide +kernel
theorem dX8_readPerson_118 : decode cX8_readPerson 118 = .ok (.iadd, 1) := by decide +kernel
theorem dX8_readPerson_119 : decode cX8_readPerson 119 = .ok (.iload_n 3, 1) := by decide +kernel
theorem dX8_readPerson_120 : decode cX8_readPerson 120 = .ok (.iastore, 1) := by decide +kernel
theorem dX8_readPerson_121 : decode cX8_readPerson 121 = .ok (.aload_n 0, 1) := by decide +kernel
theorem dX8_readPerson_122 : decode cX8_readPerson 122 = .ok (.getfield 22, 3) := by decide +kernel
theorem dX8_readPerson_125 : decode cX8_readPerson 125 = .ok (.iconst 3, 1) := by decide +kernel
theorem dX8_readPerson_126 : decode cX8_readPerson 126 = .ok (.dup2, 1) := by decide +kernel
theorem dX8_readPerson_127 : decode cX8_readPerson 127 = .ok (.iaload, 1) := by decide +kernel
theorem dX8_readPerson_128 : decode cX8_readPerson 128 = .ok (.iconst 1, 1) := by decide +kernel
theorem dX8_readPerson_129 : decode cX8_readPerson 129 = .ok (.iadd, 1) := by decide +kernel
theorem dX8_readPerson_130 : decode cX8_readPerson 130 = .ok (.iastore, 1) := by decide +kernel
theorem dX8_readPerson_131 : decode cX8_readPerson 131 = .ok (.return_, 1) := by decide +kernel
theorem dX8_league_0 : decode cX8_league 0 = .ok (.aload_n 0, 1) := by decide +kernel
theorem dX8_league_1 : decode cX8_league 1 = .ok (.iconst 0, 1) := by decide +kernel
theorem dX8_league_2 : decode cX8_league 2 = .ok (.putfield 48, 3) := by decide +kernel
theorem dX8_league_5 : decode cX8_league 5 = .ok (.aload_n 0, 1) := by decide +kernel
theorem dX8_league_6 : decode cX8_league 6 = .ok (.invokevirtual 156, 3) := by decide +kernel
theorem dX8_league_9 : decode cX8_league 9 = .ok (.iconst 0, 1) := by decide +kernel
theorem dX8_league_10 : decode cX8_league 10 = .ok (.istore_n 1, 1) := by decide +kernel
theorem dX8_league_11 : decode cX8_league 11 = .ok (.iload_n 1, 1) := by decide +kernel
theorem dX8_league_12 : decode cX8_league 12 = .ok (.bipush 68, 2) := by decide +kernel
theorem dX8_league_14 : decode cX8_league 14 = .ok (.if_icmp .ge 16, 3) := by decide +kernel
theorem dX8_league_17 : decode cX8_league 17 = .ok (.aload_n 0, 1) := by decide +kernel
theorem dX8_league_18 : decode cX8_league 18 = .ok (.getfield 22, 3) := by decide +kernel
theorem dX8_league_21 : decode cX8_league 21 = .ok (.iload_n 1, 1) := by decide +kernel
theorem dX8_league_22 : decode cX8_league 22 = .ok (.iconst 0, 1) := by decide +kernel
theorem dX8_league_23 : decode cX8_league 23 = .ok (.iastore, 1) := by decide +kernel
theorem dX8_league_24 : decode cX8_league 24 = .ok (.iinc 1 1, 3) := by decide +kernel
theorem dX8_league_27 : decode cX8_league 27 = .ok (.goto (-16), 3) := by decide +kernel
theorem dX8_league_30 : decode cX8_league 30 = .ok (.aload_n 0, 1) := by decide +kernel
theorem dX8_league_31 : decode cX8_league 31 = .ok (.aload_n 0, 1) := by decide +kernel
theorem dX8_league_32 : decode cX8_league 32 = .ok (.invokevirtual 148, 3) := by decide +kernel
theorem dX8_league_35 : decode cX8_league 35 = .ok (.ldc2_w 159, 3) := by decide +kernel
theorem dX8_league_38 : decode cX8_league 38 = .ok (.lcmp, 1) := by decide +kernel
theorem dX8_league_39 : decode cX8_league 39 = .ok (.ifCond .ne 7, 3) := by decide +kernel
theorem dX8_league_42 : decode cX8_league 42 = .ok (.iconst 1, 1) := by decide +kernel
theorem dX8_league_43 : decode cX8_league 43 = .ok (.goto 4, 3) := by decide +kernel
theorem dX8_league_46 : decode cX8_league 46 = .ok (.iconst 0, 1) := by decide +kernel
theorem dX8_league_47 : decode cX8_league 47 = .ok (.invokevirtual 123, 3) := by decide +kernel
theorem dX8_league_50 : decode cX8_league 50 = .ok (.aload_n 0, 1) := by decide +kernel
theorem dX8_league_51 : decode cX8_league 51 = .ok (.getfield 22, 3) := by decide +kernel
theorem dX8_league_54 : decode cX8_league 54 = .ok (.iconst 0, 1) := by decide +kernel
theorem dX8_league_55 : decode cX8_league 55 = .ok (.aload_n 0, 1) := by decide +kernel
theorem dX8_league_56 : decode cX8_league 56 = .ok (.iconst 1, 1) := by decide +kernel
theorem dX8_league_57 : decode cX8_league 57 = .ok (.iconst 5, 1) := by decide +kernel
theorem dX8_league_58 : decode cX8_league 58 = .ok (.invokevirtual 141, 3) := by decide +kernel
theorem dX8_league_61 : decode cX8_league 61 = .ok (.iastore, 1) := by decide +kernel
theorem dX8_league_62 : decode cX8_league 62 = .ok (.aload_n 0, 1) := by decide +kernel
theorem dX8_league_63 : decode cX8_league 63 = .ok (.getfield 22, 3) := by decide +kernel
theorem dX8_league_66 : decode cX8_league 66 = .ok (.iconst 1, 1) := by decide +kernel
theorem dX8_league_67 : decode cX8_league 67 = .ok (.aload_n 0, 1) := by decide +kernel
theorem dX8_league_68 : decode cX8_league 68 = .ok (.iconst 0, 1) := by decide +kernel
theorem dX8_league_69 : decode cX8_league 69 = .ok (.bipush 20, 2) := by decide +kernel
theorem dX8_league_71 : decode cX8_league 71 = .ok (.invokevirtual 141, 3) := by decide +kernel
theorem dX8_league_74 : decode cX8_league 74 = .ok (.iastore, 1) := by decide +kernel
theorem dX8_league_75 : decode cX8_league 75 = .ok (.aload_n 0, 1) := by decide +kernel
theorem dX8_league_76 : decode cX8_league 76 = .ok (.invokevirtual 145, 3) := by decide +kernel
theorem dX8_league_79 : decode cX8_league 79 = .ok (.aload_n 0, 1) := by decide +kernel
theorem dX8_league_80 : decode cX8_league 80 = .ok (.invokevirtual 148, 3) := by decide +kernel
theorem dX8_league_83 : decode cX8_league 83 = .ok (.ldc2_w 161, 3) := by decide +kernel
theorem dX8_league_86 : decode cX8_league 86 = .ok (.lcmp, 1) := by decide +kernel
theorem dX8_league_87 : decode cX8_league 87 = .ok (.ifCond .ne 10, 3) := by decide +kernel
theorem dX8_league_90 : decode cX8_league 90 = .ok (.aload_n 0, 1) := by decide +kernel
theorem dX8_league_91 : decode cX8_league 91 = .ok (.invokevirtual 163, 3) := by decide +kernel
theorem dX8_league_94 : decode cX8_league 94 = .ok (.goto (-15), 3) := by decide +kernel
theorem dX8_league_97 : decode cX8_league 97 = .ok (.aload_n 0, 1) := by decide +kernel
theorem dX8_league_98 : decode cX8_league 98 = .ok (.invokevirtual 148, 3) := by decide +kernel
theorem dX8_league_101 : decode cX8_league 101 = .ok (.ldc2_w 166, 3) := by decide +kernel
theorem dX8_league_104 : decode cX8_league 104 = .ok (.lcmp, 1) := by decide +kernel
theorem dX8_league_105 : decode cX8_league 105 = .ok (.ifCond .ne 10, 3) := by decide +kernel
theorem dX8_league_108 : decode cX8_league 108 = .ok (.aload_n 0, 1) := by decide +kernel
theorem dX8_league_109 : decode cX8_league 109 = .ok (.invokevirtual 168, 3) := by decide +kernel
theorem dX8_league_112 : decode cX8_league 112 = .ok (.goto (-15), 3) := by decide +kernel
theorem dX8_league_115 : decode cX8_league 115 = .ok (.aload_n 0, 1) := by decide +kernel
theorem dX8_league_116 : decode cX8_league 116 = .ok (.getfield 106, 3) := by decide +kernel
theorem dX8_league_119 : decode cX8_league 119 = .ok (.ifCond .ne 16, 3) := by decide +kernel
theorem dX8_league_122 : decode cX8_league 122 = .ok (.aload_n 0, 1) := by decide +kernel
theorem dX8_league_123 : decode cX8_league 123 = .ok (.getfield 94, 3) := by decide +kernel
theorem dX8_league_126 : decode cX8_league 126 = .ok (.iconst 1, 1) := by decide +kernel
theorem dX8_league_127 : decode cX8_league 127 = .ok (.if_icmp .eq 8, 3) := by decide +kernel
theorem dX8_league_130 : decode cX8_league 130 = .ok (.aload_n 0, 1) := by decide +kernel
theorem dX8_league_131 : decode cX8_league 131 = .ok (.iconst 1, 1) := by decide +kernel
theorem dX8_league_132 : decode cX8_league 132 = .ok (.invokevirtual 115, 3) := by decide +kernel
theorem dX8_league_135 : decode cX8_league 135 = .ok (.aload_n 0, 1) := by decide +kernel
theorem dX8_league_136 : decode cX8_league 136 = .ok (.getfield 106, 3) := by decide +kernel
theorem dX8_league_139 : decode cX8_league 139 = .ok (.ifCond .le 19, 3) := by decide +kernel
theorem dX8_league_142 : decode cX8_league 142 = .ok (.aload_n 0, 1) := by decide +kernel
theorem dX8_league_143 : decode cX8_league 143 = .ok (.aload_n 0, 1) := by decide +kernel
theorem dX8_league_144 : decode cX8_league 144 = .ok (.getfield 106, 3) := by decide +kernel
theorem dX8_league_147 : decode cX8_league 147 = .ok (.putfield 171, 3) := by decide +kernel
theorem dX8_league_150 : decode cX8_league 150 = .ok (.ldc 174, 2) := by decide +kernel
theorem dX8_league_152 : decode cX8_league 152 = .ok (.aload_n 0, 1) := by decide +kernel
theorem dX8_league_153 : decode cX8_league 153 = .ok (.getfield 112, 3) := by decide +kernel
theorem dX8_league_156 : decode cX8_league 156 = .ok (.isub, 1) := by decide +kernel
theorem dX8_league_157 : decode cX8_league 157 = .ok (.ireturn, 1) := by decide +kernel
theorem dX8_league_158 : decode cX8_league 158 = .ok (.aload_n 0, 1) := by decide +kernel
theorem dX8_league_159 : decode cX8_league 159 = .ok (.iconst 0, 1) := by decide +kernel
theorem dX8_league_160 : decode cX8_league 160 = .ok (.putfield 175, 3) := by decide +kernel
theorem dX8_league_163 : decode cX8_league 163 = .ok (.iconst 0, 1) := by decide +kernel
theorem dX8_league_164 : decode cX8_league 164 = .ok (.istore_n 1, 1) := by decide +kernel
theorem dX8_league_165 : decode cX8_league 165 = .ok (.iload_n 1, 1) := by decide +kernel
theorem dX8_league_166 : decode cX8_league 166 = .ok (.bipush 68, 2) := by decide +kernel
theorem dX8_league_168 : decode cX8_league 168 = .ok (.if_icmp .ge 21, 3) := by decide +kernel
theorem dX8_league_171 : decode cX8_league 171 = .ok (.aload_n 0, 1) := by decide +kernel
theorem dX8_league_172 : decode cX8_league 172 = .ok (.getfield 19, 3) := by decide +kernel
theorem dX8_league_175 : decode cX8_league 175 = .ok (.iload_n 1, 1) := by decide +kernel
theorem dX8_league_176 : decode cX8_league 176 = .ok (.aload_n 0, 1) := by decide +kernel
theorem dX8_league_177 : decode cX8_league 177 = .ok (.getfield 22, 3) := by decide +kernel
theorem dX8_league_180 : decode cX8_league 180 = .ok (.iload_n 1, 1) := by decide +kernel
theorem dX8_league_181 : decode cX8_league 181 = .ok (.iaload, 1) := by decide +kernel
theorem dX8_league_182 : decode cX8_league 182 = .ok (.iastore, 1) := by decide +kernel
theorem dX8_league_183 : decode cX8_league 183 = .ok (.iinc 1 1, 3) := by decide +kernel
theorem dX8_league_186 : decode cX8_league 186 = .ok (.goto (-21), 3) := by decide +kernel
theorem dX8_league_189 : decode cX8_league 189 = .ok (.aload_n 0, 1) := by decide +kernel
theorem dX8_league_190 : decode cX8_league 190 = .ok (.getfield 19, 3) := by decide +kernel
theorem dX8_league_193 : decode cX8_league 193 = .ok (.iconst 3, 1) := by decide +kernel
theorem dX8_league_194 : decode cX8_league 194 = .ok (.iaload, 1) := by decide +kernel
theorem dX8_league_195 : decode cX8_league 195 = .ok (.ireturn, 1) := by decide +kernel
theorem dX8_fault_0 : decode cX8_fault 0 = .ok (.aload_n 0, 1) := by decide +kernel
theorem dX8_fault_1 : decode cX8_fault 1 = .ok (.iconst 0, 1) := by decide +kernel
theorem dX8_fault_2 : decode cX8_fault 2 = .ok (.putfield 48, 3) := by decide +kernel
theorem dX8_fault_5 : decode cX8_fault 5 = .ok (.aload_n 0, 1) := by decide +kernel
theorem dX8_fault_6 : decode cX8_fault 6 = .ok (.getfield 171, 3) := by decide +kernel
theorem dX8_fault_9 : decode cX8_fault 9 = .ok (.ireturn, 1) := by decide +kernel
theorem dX8_isThere_0 : decode cX8_isThere 0 = .ok (.aload_n 0, 1) := by decide +kernel
theorem dX8_isThere_1 : decode cX8_isThere 1 = .ok (.getfield 19, 3) := by decide +kernel
theorem dX8_isThere_4 : decode cX8_isThere 4 = .ok (.iconst 0, 1) := by decide +kernel
theorem dX8_isThere_5 : decode cX8_isThere 5 = .ok (.iaload, 1) := by decide +kernel
theorem dX8_isThere_6 : decode cX8_isThere 6 = .ok (.ifCond .le 7, 3) := by decide +kernel
theorem dX8_isThere_9 : decode cX8_isThere 9 = .ok (.iconst 1, 1) := by decide +kernel
theorem dX8_isThere_10 : decode cX8_isThere 10 = .ok (.goto 4, 3) := by decide +kernel
theorem dX8_isThere_13 : decode cX8_isThere 13 = .ok (.iconst 0, 1) := by decide +kernel
theorem dX8_isThere_14 : decode cX8_isThere 14 = .ok (.ireturn, 1) := by decide +kernel
theorem dX8_isPerson_0 : decode cX8_isPerson 0 = .ok (.iload_n 1, 1) := by decide +kernel
theorem dX8_isPerson_1 : decode cX8_isPerson 1 = .ok (.i2l, 1) := by decide +kernel
theorem dX8_isPerson_2 : decode cX8_isPerson 2 = .ok (.lconst 0, 1) := by decide +kernel
theorem dX8_isPerson_3 : decode cX8_isPerson 3 = .ok (.aload_n 0, 1) := by decide +kernel
theorem dX8_isPerson_4 : decode cX8_isPerson 4 = .ok (.getfield 19, 3) := by decide +kernel
theorem dX8_isPerson_7 : decode cX8_isPerson 7 = .ok (.iconst 3, 1) := by decide +kernel
theorem dX8_isPerson_8 : decode cX8_isPerson 8 = .ok (.iaload, 1) := by decide +kernel
theorem dX8_isPerson_9 : decode cX8_isPerson 9 = .ok (.iconst 1, 1) := by decide +kernel
theorem dX8_isPerson_10 : decode cX8_isPerson 10 = .ok (.isub, 1) := by decide +kernel
theorem dX8_isPerson_11 : decode cX8_isPerson 11 = .ok (.i2l, 1) := by decide +kernel
theorem dX8_isPerson_12 : decode cX8_isPerson 12 = .ok (.invokestatic 58, 3) := by decide +kernel
theorem dX8_isPerson_15 : decode cX8_isPerson 15 = .ok (.ireturn, 1) := by decide +kernel
theorem dX8_isWay_0 : decode cX8_isWay 0 = .ok (.iload_n 1, 1) := by decide +kernel
theorem dX8_isWay_1 : decode cX8_isWay 1 = .ok (.i2l, 1) := by decide +kernel
theorem dX8_isWay_2 : decode cX8_isWay 2 = .ok (.lconst 0, 1) := by decide +kernel
theorem dX8_isWay_3 : decode cX8_isWay 3 = .ok (.aload_n 0, 1) := by decide +kernel
theorem dX8_isWay_4 : decode cX8_isWay 4 = .ok (.getfield 19, 3) := by decide +kernel
theorem dX8_isWay_7 : decode cX8_isWay 7 = .ok (.iconst 2, 1) := by decide +kernel
theorem dX8_isWay_8 : decode cX8_isWay 8 = .ok (.iaload, 1) := by decide +kernel
theorem dX8_isWay_9 : decode cX8_isWay 9 = .ok (.iconst 1, 1) := by decide +kernel
theorem dX8_isWay_10 : decode cX8_isWay 10 = .ok (.isub, 1) := by decide +kernel
theorem dX8_isWay_11 : decode cX8_isWay 11 = .ok (.i2l, 1) := by decide +kernel
theorem dX8_isWay_12 : decode cX8_isWay 12 = .ok (.invokestatic 58, 3) := by decide +kernel
theorem dX8_isWay_15 : decode cX8_isWay 15 = .ok (.ireturn, 1) := by decide +kernel
theorem dX8_isHarbour_0 : decode cX8_isHarbour 0 = .ok (.iload_n 1, 1) := by decide +kernel
theorem dX8_isHarbour_1 : decode cX8_isHarbour 1 = .ok (.i2l, 1) := by decide +kernel
theorem dX8_isHarbour_2 : decode cX8_isHarbour 2 = .ok (.lconst 0, 1) := by decide +kernel
theorem dX8_isHarbour_3 : decode cX8_isHarbour 3 = .ok (.aload_n 0, 1) := by decide +kernel
theorem dX8_isHarbour_4 : decode cX8_isHarbour 4 = .ok (.getfield 19, 3) := by decide +kernel
theorem dX8_isHarbour_7 : decode cX8_isHarbour 7 = .ok (.iconst 0, 1) := by decide +kernel
theorem dX8_isHarbour_8 : decode cX8_isHarbour 8 = .ok (.iaload, 1) := by decide +kernel
theorem dX8_isHarbour_9 : decode cX8_isHarbour 9 = .ok (.iconst 1, 1) := by decide +kernel
theorem dX8_isHarbour_10 : decode cX8_isHarbour 10 = .ok (.isub, 1) := by decide +kernel
theorem dX8_isHarbour_11 : decode cX8_isHarbour 11 = .ok (.i2l, 1) := by decide +kernel
theorem dX8_isHarbour_12 : decode cX8_isHarbour 12 = .ok (.invokestatic 58, 3) := by decide +kernel
theorem dX8_isHarbour_15 : decode cX8_isHarbour 15 = .ok (.ireturn, 1) := by decide +kernel
theorem dX8_of_0 : decode cX8_of 0 = .ok (.aload_n 0, 1) := by decide +kernel
theorem dX8_of_1 : decode cX8_of 1 = .ok (.getfield 19, 3) := by decide +kernel
theorem dX8_of_4 : decode cX8_of 4 = .ok (.bipush 36, 2) := by decide +kernel
theorem dX8_of_6 : decode cX8_of 6 = .ok (.bipush 8, 2) := by decide +kernel
theorem dX8_of_8 : decode cX8_of 8 = .ok (.iload_n 1, 1) := by decide +kernel
theorem dX8_of_9 : decode cX8_of 9 = .ok (.imul, 1) := by decide +kernel
theorem dX8_of_10 : decode cX8_of 10 = .ok (.iadd, 1) := by decide +kernel
theorem dX8_of_11 : decode cX8_of 11 = .ok (.iload_n 2, 1) := by decide +kernel
theorem dX8_of_12 : decode cX8_of 12 = .ok (.iadd, 1) := by decide +kernel
theorem dX8_of_13 : decode cX8_of 13 = .ok (.iaload, 1) := by decide +kernel
theorem dX8_of_14 : decode cX8_of 14 = .ok (.ireturn, 1) := by decide +kernel
theorem dX8_wayOf_0 : decode cX8_wayOf 0 = .ok (.aload_n 0, 1) := by decide +kernel
theorem dX8_wayOf_1 : decode cX8_wayOf 1 = .ok (.getfield 19, 3) := by decide +kernel
theorem dX8_wayOf_4 : decode cX8_wayOf 4 = .ok (.iconst 4, 1) := by decide +kernel
theorem dX8_wayOf_5 : decode cX8_wayOf 5 = .ok (.iconst 4, 1) := by decide +kernel
theorem dX8_wayOf_6 : decode cX8_wayOf 6 = .ok (.iload_n 1, 1) := by decide +kernel
theorem dX8_wayOf_7 : decode cX8_wayOf 7 = .ok (.imul, 1) := by decide +kernel
theorem dX8_wayOf_8 : decode cX8_wayOf 8 = .ok (.iadd, 1) := by decide +kernel
theorem dX8_wayOf_9 : decode cX8_wayOf 9 = .ok (.iload_n 2, 1) := by decide +kernel
theorem dX8_wayOf_10 : decode cX8_wayOf 10 = .ok (.iadd, 1) := by decide +kernel
theorem dX8_wayOf_11 : decode cX8_wayOf 11 = .ok (.iaload, 1) := by decide +kernel
theorem dX8_wayOf_12 : decode cX8_wayOf 12 = .ok (.ireturn, 1) := by decide +kernel
theorem dX8_endOf_0 : decode cX8_endOf 0 = .ok (.aload_n 0, 1) := by decide +kernel
theorem dX8_endOf_1 : decode cX8_endOf 1 = .ok (.iload_n 2, 1) := by decide +kernel
theorem dX8_endOf_2 : decode cX8_endOf 2 = .ok (.iconst 0, 1) := by decide +kernel
theorem dX8_endOf_3 : decode cX8_endOf 3 = .ok (.invokevirtual 178, 3) := by decide +kernel
theorem dX8_endOf_6 : decode cX8_endOf 6 = .ok (.iload_n 3, 1) := by decide +kernel
theorem dX8_endOf_7 : decode cX8_endOf 7 = .ok (.if_icmp .ne 12, 3) := by decide +kernel
theorem dX8_endOf_10 : decode cX8_endOf 10 = .ok (.aload_n 0, 1) := by decide +kernel
theorem dX8_endOf_11 : decode cX8_endOf 11 = .ok (.iload_n 2, 1) := by decide +kernel
theorem dX8_endOf_12 : decode cX8_endOf 12 = .ok (.iconst 1, 1) := by decide +kernel
theorem dX8_endOf_13 : decode cX8_endOf 13 = .ok (.invokevirtual 178, 3) := by decide +kernel
theorem dX8_endOf_16 : decode cX8_endOf 16 = .ok (.goto 24, 3) := by decide +kernel
theorem dX8_endOf_19 : decode cX8_endOf 19 = .ok (.aload_n 0, 1) := by decide +kernel
theorem dX8_endOf_20 : decode cX8_endOf 20 = .ok (.iload_n 2, 1) := by decide +kernel
theorem dX8_endOf_21 : decode cX8_endOf 21 = .ok (.iconst 1, 1) := by decide +kernel
theorem dX8_endOf_22 : decode cX8_endOf 22 = .ok (.invokevirtual 178, 3) := by decide +kernel
theorem dX8_endOf_25 : decode cX8_endOf 25 = .ok (.iload_n 3, 1) := by decide +kernel
theorem dX8_endOf_26 : decode cX8_endOf 26 = .ok (.if_icmp .ne 12, 3) := by decide +kernel
theorem dX8_endOf_29 : decode cX8_endOf 29 = .ok (.aload_n 0, 1) := by decide +kernel
theorem dX8_endOf_30 : decode cX8_endOf 30 = .ok (.iload_n 2, 1) := by decide +kernel
theorem dX8_endOf_31 : decode cX8_endOf 31 = .ok (.iconst 0, 1) := by decide +kernel
theorem dX8_endOf_32 : decode cX8_endOf 32 = .ok (.invokevirtual 178, 3) := by decide +kernel
theorem dX8_endOf_35 : decode cX8_endOf 35 = .ok (.goto 5, 3) := by decide +kernel
theorem dX8_endOf_38 : decode cX8_endOf 38 = .ok (.ldc 84, 2) := by decide +kernel
theorem dX8_endOf_40 : decode cX8_endOf 40 = .ok (.istore 4, 2) := by decide +kernel
theorem dX8_endOf_42 : decode cX8_endOf 42 = .ok (.aload_n 0, 1) := by decide +kernel
theorem dX8_endOf_43 : decode cX8_endOf 43 = .ok (.iload_n 1, 1) := by decide +kernel
theorem dX8_endOf_44 : decode cX8_endOf 44 = .ok (.iconst 0, 1) := by decide +kernel
theorem dX8_endOf_45 : decode cX8_endOf 45 = .ok (.invokevirtual 181, 3) := by decide +kernel
theorem dX8_endOf_48 : decode cX8_endOf 48 = .ok (.iconst 5, 1) := by decide +kernel
theorem dX8_endOf_49 : decode cX8_endOf 49 = .ok (.if_icmp .ne 19, 3) := by decide +kernel
theorem dX8_endOf_52 : decode cX8_endOf 52 = .ok (.aload_n 0, 1) := by decide +kernel
theorem dX8_endOf_53 : decode cX8_endOf 53 = .ok (.iload_n 2, 1) := by decide +kernel
theorem dX8_endOf_54 : decode cX8_endOf 54 = .ok (.iconst 2, 1) := by decide +kernel
theorem dX8_endOf_55 : decode cX8_endOf 55 = .ok (.invokevirtual 178, 3) := by decide +kernel
theorem dX8_endOf_58 : decode cX8_endOf 58 = .ok (.bipush 10, 2) := by decide +kernel
theorem dX8_endOf_60 : decode cX8_endOf 60 = .ok (.if_icmp .le 8, 3) := by decide +kernel
theorem dX8_endOf_63 : decode cX8_endOf 63 = .ok (.ldc 84, 2) := by decide +kernel
theorem dX8_endOf_65 : decode cX8_endOf 65 = .ok (.goto 5, 3) := by decide +kernel
theorem dX8_endOf_68 : decode cX8_endOf 68 = .ok (.iload 4, 2) := by decide +kernel
theorem dX8_endOf_70 : decode cX8_endOf 70 = .ok (.ireturn, 1) := by decide +kernel
theorem dX8_agesBy_0 : decode cX8_agesBy 0 = .ok (.aload_n 0, 1) := by decide +kernel
theorem dX8_agesBy_1 : decode cX8_agesBy 1 = .ok (.iload_n 2, 1) := by decide +kernel
theorem dX8_agesBy_2 : decode cX8_agesBy 2 = .ok (.iconst 3, 1) := by decide +kernel
theorem dX8_agesBy_3 : decode cX8_agesBy 3 = .ok (.invokevirtual 178, 3) := by decide +kernel
theorem dX8_agesBy_6 : decode cX8_agesBy 6 = .ok (.istore_n 3, 1) := by decide +kernel
theorem dX8_agesBy_7 : decode cX8_agesBy 7 = .ok (.aload_n 0, 1) := by decide +kernel
theorem dX8_agesBy_8 : decode cX8_agesBy 8 = .ok (.iload_n 1, 1) := by decide +kernel
theorem dX8_agesBy_9 : decode cX8_agesBy 9 = .ok (.iconst 0, 1) := by decide +kernel
theorem dX8_agesBy_10 : decode cX8_agesBy 10 = .ok (.invokevirtual 181, 3) := by decide +kernel
theorem dX8_agesBy_13 : decode cX8_agesBy 13 = .ok (.tableswitch 48 2 4 #[27, 39, 41], 27) := by decide +kernel
theorem dX8_agesBy_40 : decode cX8_agesBy 40 = .ok (.iload_n 3, 1) := by decide +kernel
theorem dX8_agesBy_41 : decode cX8_agesBy 41 = .ok (.ifCond .le 9, 3) := by decide +kernel
theorem dX8_agesBy_44 : decode cX8_agesBy 44 = .ok (.iload_n 3, 1) := by decide +kernel
theorem dX8_agesBy_45 : decode cX8_agesBy 45 = .ok (.iconst 1, 1) := by decide +kernel
theorem dX8_agesBy_46 : decode cX8_agesBy 46 = .ok (.isub, 1) := by decide +kernel
theorem dX8_agesBy_47 : decode cX8_agesBy 47 = .ok (.goto 4, 3) := by decide +kernel
theorem dX8_agesBy_50 : decode cX8_agesBy 50 = .ok (.iconst 0, 1) := by decide +kernel
theorem dX8_agesBy_51 : decode cX8_agesBy 51 = .ok (.ireturn, 1) := by decide +kernel
theorem dX8_agesBy_52 : decode cX8_agesBy 52 = .ok (.iconst 0, 1) := by decide +kernel
theorem dX8_agesBy_53 : decode cX8_agesBy 53 = .ok (.ireturn, 1) := by decide +kernel
theorem dX8_agesBy_54 : decode cX8_agesBy 54 = .ok (.aload_n 0, 1) := by decide +kernel
theorem dX8_agesBy_55 : decode cX8_agesBy 55 = .ok (.iload_n 2, 1) := by decide +kernel
theorem dX8_agesBy_56 : decode cX8_agesBy 56 = .ok (.iconst 2, 1) := by decide +kernel
theorem dX8_agesBy_57 : decode cX8_agesBy 57 = .ok (.invokevirtual 178, 3) := by decide +kernel
theorem dX8_agesBy_60 : decode cX8_agesBy 60 = .ok (.ireturn, 1) := by decide +kernel
theorem dX8_agesBy_61 : decode cX8_agesBy 61 = .ok (.iload_n 3, 1) := by decide +kernel
theorem dX8_agesBy_62 : decode cX8_agesBy 62 = .ok (.ireturn, 1) := by decide +kernel
theorem dX8_keep_0 : decode cX8_keep 0 = .ok (.aload_n 0, 1) := by decide +kernel
theorem dX8_keep_1 : decode cX8_keep 1 = .ok (.getfield 175, 3) := by decide +kernel
theorem dX8_keep_4 : decode cX8_keep 4 = .ok (.bipush 24, 2) := by decide +kernel
theorem dX8_keep_6 : decode cX8_keep 6 = .ok (.if_icmp .ne 43, 3) := by decide +kernel
theorem dX8_keep_9 : decode cX8_keep 9 = .ok (.iconst 0, 1) := by decide +kernel
theorem dX8_keep_10 : decode cX8_keep 10 = .ok (.istore_n 1, 1) := by decide +kernel
theorem dX8_keep_11 : decode cX8_keep 11 = .ok (.iload_n 1, 1) := by decide +kernel
theorem dX8_keep_12 : decode cX8_keep 12 = .ok (.sipush 1564, 3) := by decide +kernel
theorem dX8_keep_15 : decode cX8_keep 15 = .ok (.if_icmp .ge 24, 3) := by decide +kernel
theorem dX8_keep_18 : decode cX8_keep 18 = .ok (.aload_n 0, 1) := by decide +kernel
theorem dX8_keep_19 : decode cX8_keep 19 = .ok (.getfield 25, 3) := by decide +kernel
theorem dX8_keep_22 : decode cX8_keep 22 = .ok (.iload_n 1, 1) := by decide +kernel
theorem dX8_keep_23 : decode cX8_keep 23 = .ok (.aload_n 0, 1) := by decide +kernel
theorem dX8_keep_24 : decode cX8_keep 24 = .ok (.getfield 25, 3) := by decide +kernel
theorem dX8_keep_27 : decode cX8_keep 27 = .ok (.iload_n 1, 1) := by decide +kernel
theorem dX8_keep_28 : decode cX8_keep 28 = .ok (.bipush 68, 2) := by decide +kernel
theorem dX8_keep_30 : decode cX8_keep 30 = .ok (.iadd, 1) := by decide +kernel
theorem dX8_keep_31 : decode cX8_keep 31 = .ok (.iaload, 1) := by decide +kernel
theorem dX8_keep_32 : decode cX8_keep 32 = .ok (.iastore, 1) := by decide +kernel
theorem dX8_keep_33 : decode cX8_keep 33 = .ok (.iinc 1 1, 3) := by decide +kernel
theorem dX8_keep_36 : decode cX8_keep 36 = .ok (.goto (-25), 3) := by decide +kernel
theorem dX8_keep_39 : decode cX8_keep 39 = .ok (.aload_n 0, 1) := by decide +kernel
theorem dX8_keep_40 : decode cX8_keep 40 = .ok (.dup, 1) := by decide +kernel
theorem dX8_keep_41 : decode cX8_keep 41 = .ok (.getfield 175, 3) := by decide +kernel
theorem dX8_keep_44 : decode cX8_keep 44 = .ok (.iconst 1, 1) := by decide +kernel
theorem dX8_keep_45 : decode cX8_keep 45 = .ok (.isub, 1) := by decide +kernel
theorem dX8_keep_46 : decode cX8_keep 46 = .ok (.putfield 175, 3) := by decide +kernel
theorem dX8_keep_49 : decode cX8_keep 49 = .ok (.iconst 0, 1) := by decide +kernel
theorem dX8_keep_50 : decode cX8_keep 50 = .ok (.istore_n 1, 1) := by decide +kernel
theorem dX8_keep_51 : decode cX8_keep 51 = .ok (.iload_n 1, 1) := by decide +kernel
theorem dX8_keep_52 : decode cX8_keep 52 = .ok (.bipush 68, 2) := by decide +kernel
theorem dX8_keep_54 : decode cX8_keep 54 = .ok (.if_icmp .ge 29, 3) := by decide +kernel
theorem dX8_keep_57 : decode cX8_keep 57 = .ok (.aload_n 0, 1) := by decide +kernel
theorem dX8_keep_58 : decode cX8_keep 58 = .ok (.getfield 25, 3) := by decide +kernel
theorem dX8_keep_61 : decode cX8_keep 61 = .ok (.bipush 68, 2) := by decide +kernel
theorem dX8_keep_63 : decode cX8_keep 63 = .ok (.aload_n 0, 1) := by decide +kernel
theorem dX8_keep_64 : decode cX8_keep 64 = .ok (.getfield 175, 3) := by decide +kernel
theorem dX8_keep_67 : decode cX8_keep 67 = .ok (.imul, 1) := by decide +kernel
theorem dX8_keep_68 : decode cX8_keep 68 = .ok (.iload_n 1, 1) := by decide +kernel
theorem dX8_keep_69 : decode cX8_keep 69 = .ok (.iadd, 1) := by decide +kernel
theorem dX8_keep_70 : decode cX8_keep 70 = .ok (.aload_n 0, 1) := by decide +kernel
theorem dX8_keep_71 : decode cX8_keep 71 = .ok (.getfield 19, 3) := by decide +kernel
theorem dX8_keep_74 : decode cX8_keep 74 = .ok (.iload_n 1, 1) := by decide +kernel
theorem dX8_keep_75 : decode cX8_keep 75 = .ok (.iaload, 1) := by decide +kernel
theorem dX8_keep_76 : decode cX8_keep 76 = .ok (.iastore, 1) := by decide +kernel
theorem dX8_keep_77 : decode cX8_keep 77 = .ok (.iinc 1 1, 3) := by decide +kernel
theorem dX8_keep_80 : decode cX8_keep 80 = .ok (.goto (-29), 3) := by decide +kernel
theorem dX8_keep_83 : decode cX8_keep 83 = .ok (.aload_n 0, 1) := by decide +kernel
theorem dX8_keep_84 : decode cX8_keep 84 = .ok (.dup, 1) := by decide +kernel
theorem dX8_keep_85 : decode cX8_keep 85 = .ok (.getfield 175, 3) := by decide +kernel
theorem dX8_keep_88 : decode cX8_keep 88 = .ok (.iconst 1, 1) := by decide +kernel
theorem dX8_keep_89 : decode cX8_keep 89 = .ok (.iadd, 1) := by decide +kernel
theorem dX8_keep_90 : decode cX8_keep 90 = .ok (.putfield 175, 3) := by decide +kernel
theorem dX8_keep_93 : decode cX8_keep 93 = .ok (.return_, 1) := by decide +kernel
theorem dX8_ages_0 : decode cX8_ages 0 = .ok (.aload_n 0, 1) := by decide +kernel
theorem dX8_ages_1 : decode cX8_ages 1 = .ok (.getfield 19, 3) := by decide +kernel
theorem dX8_ages_4 : decode cX8_ages 4 = .ok (.bipush 36, 2) := by decide +kernel
theorem dX8_ages_6 : decode cX8_ages 6 = .ok (.bipush 8, 2) := by decide +kernel
theorem dX8_ages_8 : decode cX8_ages 8 = .ok (.iload_n 1, 1) := by decide +kernel
theorem dX8_ages_9 : decode cX8_ages 9 = .ok (.imul, 1) := by decide +kernel
theorem dX8_ages_10 : decode cX8_ages 10 = .ok (.iadd, 1) := by decide +kernel
theorem dX8_ages_11 : decode cX8_ages 11 = .ok (.iconst 3, 1) := by decide +kernel
theorem dX8_ages_12 : decode cX8_ages 12 = .ok (.iadd, 1) := by decide +kernel
theorem dX8_ages_13 : decode cX8_ages 13 = .ok (.dup2, 1) := by decide +kernel
theorem dX8_ages_14 : decode cX8_ages 14 = .ok (.iaload, 1) := by decide +kernel
theorem dX8_ages_15 : decode cX8_ages 15 = .ok (.iload_n 2, 1) := by decide +kernel
theorem dX8_ages_16 : decode cX8_ages 16 = .ok (.iadd, 1) := by decide +kernel
theorem dX8_ages_17 : decode cX8_ages 17 = .ok (.iastore, 1) := by decide +kernel
theorem dX8_ages_18 : decode cX8_ages 18 = .ok (.aload_n 0, 1) := by decide +kernel
theorem dX8_ages_19 : decode cX8_ages 19 = .ok (.getfield 19, 3) := by decide +kernel
theorem dX8_ages_22 : decode cX8_ages 22 = .ok (.bipush 36, 2) := by decide +kernel
theorem dX8_ages_24 : decode cX8_ages 24 = .ok (.bipush 8, 2) := by decide +kernel
theorem dX8_ages_26 : decode cX8_ages 26 = .ok (.iload_n 1, 1) := by decide +kernel
theorem dX8_ages_27 : decode cX8_ages 27 = .ok (.imul, 1) := by decide +kernel
theorem dX8_ages_28 : decode cX8_ages 28 = .ok (.iadd, 1) := by decide +kernel
theorem dX8_ages_29 : decode cX8_ages 29 = .ok (.iconst 4, 1) := by decide +kernel
theorem dX8_ages_30 : decode cX8_ages 30 = .ok (.iadd, 1) := by decide +kernel
theorem dX8_ages_31 : decode cX8_ages 31 = .ok (.dup2, 1) := by decide +kernel
theorem dX8_ages_32 : decode cX8_ages 32 = .ok (.iaload, 1) := by decide +kernel
theorem dX8_ages_33 : decode cX8_ages 33 = .ok (.iload_n 3, 1) := by decide +kernel
theorem dX8_ages_34 : decode cX8_ages 34 = .ok (.iadd, 1) := by decide +kernel
theorem dX8_ages_35 : decode cX8_ages 35 = .ok (.iastore, 1) := by decide +kernel
theorem dX8_ages_36 : decode cX8_ages 36 = .ok (.return_, 1) := by decide +kernel
theorem dX8_goes_0 : decode cX8_goes 0 = .ok (.aload_n 0, 1) := by decide +kernel
theorem dX8_goes_1 : decode cX8_goes 1 = .ok (.iload_n 1, 1) := by decide +kernel
theorem dX8_goes_2 : decode cX8_goes 2 = .ok (.iload_n 2, 1) := by decide +kernel
theorem dX8_goes_3 : decode cX8_goes 3 = .ok (.aload_n 0, 1) := by decide +kernel
theorem dX8_goes_4 : decode cX8_goes 4 = .ok (.iload_n 1, 1) := by decide +kernel
theorem dX8_goes_5 : decode cX8_goes 5 = .ok (.iconst 1, 1) := by decide +kernel
theorem dX8_goes_6 : decode cX8_goes 6 = .ok (.invokevirtual 181, 3) := by decide +kernel
theorem dX8_goes_9 : decode cX8_goes 9 = .ok (.invokevirtual 184, 3) := by decide +kernel
theorem dX8_goes_12 : decode cX8_goes 12 = .ok (.istore_n 3, 1) := by decide +kernel
theorem dX8_goes_13 : decode cX8_goes 13 = .ok (.iload_n 3, 1) := by decide +kernel
theorem dX8_goes_14 : decode cX8_goes 14 = .ok (.ldc 84, 2) := by decide +kernel
theorem dX8_goes_16 : decode cX8_goes 16 = .ok (.if_icmp .ne 6, 3) := by decide +kernel
theorem dX8_goes_19 : decode cX8_goes 19 = .ok (.ldc 188, 2) := by decide +kernel
theorem dX8_goes_21 : decode cX8_goes 21 = .ok (.ireturn, 1) := by decide +kernel
theorem dX8_goes_22 : decode cX8_goes 22 = .ok (.aload_n 0, 1) := by decide +kernel
theorem dX8_goes_23 : decode cX8_goes 23 = .ok (.iload_n 1, 1) := by decide +kernel
theorem dX8_goes_24 : decode cX8_goes 24 = .ok (.iconst 3, 1) := by decide +kernel
theorem dX8_goes_25 : decode cX8_goes 25 = .ok (.invokevirtual 181, 3) := by decide +kernel
theorem dX8_goes_28 : decode cX8_goes 28 = .ok (.aload_n 0, 1) := by decide +kernel
theorem dX8_goes_29 : decode cX8_goes 29 = .ok (.iload_n 2, 1) := by decide +kernel
theorem dX8_goes_30 : decode cX8_goes 30 = .ok (.iconst 2, 1) := by decide +kernel
theorem dX8_goes_31 : decode cX8_goes 31 = .ok (.invokevirtual 178, 3) := by decide +kernel
theorem dX8_goes_34 : decode cX8_goes 34 = .ok (.iadd, 1) := by decide +kernel
theorem dX8_goes_35 : decode cX8_goes 35 = .ok (.sipush 200, 3) := by decide +kernel
theorem dX8_goes_38 : decode cX8_goes 38 = .ok (.if_icmp .le 6, 3) := by decide +kernel
theorem dX8_goes_41 : decode cX8_goes 41 = .ok (.ldc 78, 2) := by decide +kernel
theorem dX8_goes_43 : decode cX8_goes 43 = .ok (.ireturn, 1) := by decide +kernel
theorem dX8_goes_44 : decode cX8_goes 44 = .ok (.aload_n 0, 1) := by decide +kernel
theorem dX8_goes_45 : decode cX8_goes 45 = .ok (.invokevirtual 189, 3) := by decide +kernel
theorem dX8_goes_48 : decode cX8_goes 48 = .ok (.aload_n 0, 1) := by decide +kernel
theorem dX8_goes_49 : decode cX8_goes 49 = .ok (.iload_n 1, 1) := by decide +kernel
theorem dX8_goes_50 : decode cX8_goes 50 = .ok (.aload_n 0, 1) := by decide +kernel
theorem dX8_goes_51 : decode cX8_goes 51 = .ok (.iload_n 2, 1) := by decide +kernel
theorem dX8_goes_52 : decode cX8_goes 52 = .ok (.iconst 2, 1) := by decide +kernel
theorem dX8_goes_53 : decode cX8_goes 53 = .ok (.invokevirtual 178, 3) := by decide +kernel
theorem dX8_goes_56 : decode cX8_goes 56 = .ok (.aload_n 0, 1) := by decide +kernel
theorem dX8_goes_57 : decode cX8_goes 57 = .ok (.iload_n 1, 1) := by decide +kernel
theorem dX8_goes_58 : decode cX8_goes 58 = .ok (.iload_n 2, 1) := by decide +kernel
theorem dX8_goes_59 : decode cX8_goes 59 = .ok (.invokevirtual 192, 3) := by decide +kernel
theorem dX8_goes_62 : decode cX8_goes 62 = .ok (.invokevirtual 195, 3) := by decide +kernel
theorem dX8_goes_65 : decode cX8_goes 65 = .ok (.aload_n 0, 1) := by decide +kernel
theorem dX8_goes_66 : decode cX8_goes 66 = .ok (.getfield 19, 3) := by decide +kernel
theorem dX8_goes_69 : decode cX8_goes 69 = .ok (.bipush 36, 2) := by decide +kernel
theorem dX8_goes_71 : decode cX8_goes 71 = .ok (.bipush 8, 2) := by decide +kernel
theorem dX8_goes_73 : decode cX8_goes 73 = .ok (.iload_n 1, 1) := by decide +kernel
theorem dX8_goes_74 : decode cX8_goes 74 = .ok (.imul, 1) := by decide +kernel
theorem dX8_goes_75 : decode cX8_goes 75 = .ok (.iadd, 1) := by decide +kernel
theorem dX8_goes_76 : decode cX8_goes 76 = .ok (.iconst 1, 1) := by decide +kernel
theorem dX8_goes_77 : decode cX8_goes 77 = .ok (.iadd, 1) := by decide +kernel
theorem dX8_goes_78 : decode cX8_goes 78 = .ok (.iload_n 3, 1) := by decide +kernel
theorem dX8_goes_79 : decode cX8_goes 79 = .ok (.iastore, 1) := by decide +kernel
theorem dX8_goes_80 : decode cX8_goes 80 = .ok (.iload_n 3, 1) := by decide +kernel
theorem dX8_goes_81 : decode cX8_goes 81 = .ok (.ireturn, 1) := by decide +kernel
theorem dX8_sail_0 : decode cX8_sail 0 = .ok (.aload_n 0, 1) := by decide +kernel
theorem dX8_sail_1 : decode cX8_sail 1 = .ok (.iconst 0, 1) := by decide +kernel
theorem dX8_sail_2 : decode cX8_sail 2 = .ok (.putfield 48, 3) := by decide +kernel
theorem dX8_sail_5 : decode cX8_sail 5 = .ok (.aload_n 0, 1) := by decide +kernel
theorem dX8_sail_6 : decode cX8_sail 6 = .ok (.iload_n 1, 1) := by decide +kernel
theorem dX8_sail_7 : decode cX8_sail 7 = .ok (.invokevirtual 199, 3) := by decide +kernel
theorem dX8_sail_10 : decode cX8_sail 10 = .ok (.ifCond .eq 20, 3) := by decide +kernel
theorem dX8_sail_13 : decode cX8_sail 13 = .ok (.aload_n 0, 1) := by decide +kernel
theorem dX8_sail_14 : decode cX8_sail 14 = .ok (.iload_n 2, 1) := by decide +kernel
theorem dX8_sail_15 : decode cX8_sail 15 = .ok (.invokevirtual 202, 3) := by decide +kernel
theorem dX8_sail_18 : decode cX8_sail 18 = .ok (.ifCond .eq 12, 3) := by decide +kernel
theorem dX8_sail_21 : decode cX8_sail 21 = .ok (.aload_n 0, 1) := by decide +kernel
theorem dX8_sail_22 : decode cX8_sail 22 = .ok (.iload_n 1, 1) := by decide +kernel
theorem dX8_sail_23 : decode cX8_sail 23 = .ok (.iload_n 2, 1) := by decide +kernel
theorem dX8_sail_24 : decode cX8_sail 24 = .ok (.invokevirtual 205, 3) := by decide +kernel
theorem dX8_sail_27 : decode cX8_sail 27 = .ok (.goto 5, 3) := by decide +kernel
theorem dX8_sail_30 : decode cX8_sail 30 = .ok (.ldc 68, 2) := by decide +kernel
theorem dX8_sail_32 : decode cX8_sail 32 = .ok (.ireturn, 1) := by decide +kernel
theorem dX8_sails_0 : decode cX8_sails 0 = .ok (.aload_n 0, 1) := by decide +kernel
theorem dX8_sails_1 : decode cX8_sails 1 = .ok (.iconst 0, 1) := by decide +kernel
theorem dX8_sails_2 : decode cX8_sails 2 = .ok (.putfield 48, 3) := by decide +kernel
theorem dX8_sails_5 : decode cX8_sails 5 = .ok (.aload_n 0, 1) := by decide +kernel
theorem dX8_sails_6 : decode cX8_sails 6 = .ok (.iload_n 1, 1) := by decide +kernel
theorem dX8_sails_7 : decode cX8_sails 7 = .ok (.invokevirtual 199, 3) := by decide +kernel
theorem dX8_sails_10 : decode cX8_sails 10 = .ok (.ifCond .eq 23, 3) := by decide +kernel
theorem dX8_sails_13 : decode cX8_sails 13 = .ok (.iload_n 2, 1) := by decide +kernel
theorem dX8_sails_14 : decode cX8_sails 14 = .ok (.invokestatic 62, 3) := by decide +kernel
theorem dX8_sails_17 : decode cX8_sails 17 = .ok (.ifCond .eq 16, 3) := by decide +kernel
theorem dX8_sails_20 : decode cX8_sails 20 = .ok (.iload 4, 2) := by decide +kernel
theorem dX8_sails_22 : decode cX8_sails 22 = .ok (.i2l, 1) := by decide +kernel
theorem dX8_sails_23 : decode cX8_sails 23 = .ok (.lconst 1, 1) := by decide +kernel
theorem dX8_sails_24 : decode cX8_sails 24 = .ok (.ldc2_w 208, 3) := by decide +kernel
theorem dX8_sails_27 : decode cX8_sails 27 = .ok (.invokestatic 58, 3) := by decide +kernel
theorem dX8_sails_30 : decode cX8_sails 30 = .ok (.ifCond .ne 6, 3) := by decide +kernel
theorem dX8_sails_33 : decode cX8_sails 33 = .ok (.ldc 68, 2) := by decide +kernel
theorem dX8_sails_35 : decode cX8_sails 35 = .ok (.ireturn, 1) := by decide +kernel
theorem dX8_sails_36 : decode cX8_sails 36 = .ok (.aload_n 0, 1) := by decide +kernel
theorem dX8_sails_37 : decode cX8_sails 37 = .ok (.getfield 7, 3) := by decide +kernel
theorem dX8_sails_40 : decode cX8_sails 40 = .ok (.iload_n 2, 1) := by decide +kernel
theorem dX8_sails_41 : decode cX8_sails 41 = .ok (.iaload, 1) := by decide +kernel
theorem dX8_sails_42 : decode cX8_sails 42 = .ok (.ifCond .ge 9, 3) := by decide +kernel
theorem dX8_sails_45 : decode cX8_sails 45 = .ok (.aload_n 0, 1) := by decide +kernel
theorem dX8_sails_46 : decode cX8_sails 46 = .ok (.iconst 1, 1) := by decide +kernel
theorem dX8_sails_47 : decode cX8_sails 47 = .ok (.invokevirtual 69, 3) := by decide +kernel
theorem dX8_sails_50 : decode cX8_sails 50 = .ok (.ireturn, 1) := by decide +kernel
theorem dX8_sails_51 : decode cX8_sails 51 = .ok (.iload_n 3, 1) := by decide +kernel
theorem dX8_sails_52 : decode cX8_sails 52 = .ok (.ifCond .lt 20, 3) := by decide +kernel
theorem dX8_sails_55 : decode cX8_sails 55 = .ok (.iload_n 3, 1) := by decide +kernel
theorem dX8_sails_56 : decode cX8_sails 56 = .ok (.i2l, 1) := by decide +kernel
theorem dX8_sails_57 : decode cX8_sails 57 = .ok (.iload 4, 2) := by decide +kernel
theorem dX8_sails_59 : decode cX8_sails 59 = .ok (.i2l, 1) := by decide +kernel
theorem dX8_sails_60 : decode cX8_sails 60 = .ok (.ladd, 1) := by decide +kernel
theorem dX8_sails_61 : decode cX8_sails 61 = .ok (.aload_n 0, 1) := by decide +kernel
theorem dX8_sails_62 : decode cX8_sails 62 = .ok (.getfield 13, 3) := by decide +kernel
theorem dX8_sails_65 : decode cX8_sails 65 = .ok (.iload_n 2, 1) := by decide +kernel
theorem dX8_sails_66 : decode cX8_sails 66 = .ok (.iaload, 1) := by decide +kernel
theorem dX8_sails_67 : decode cX8_sails 67 = .ok (.i2l, 1) := by decide +kernel
theorem dX8_sails_68 : decode cX8_sails 68 = .ok (.lcmp, 1) := by decide +kernel
theorem dX8_sails_69 : decode cX8_sails 69 = .ok (.ifCond .le 9, 3) := by decide +kernel
theorem dX8_sails_72 : decode cX8_sails 72 = .ok (.aload_n 0, 1) := by decide +kernel
theorem dX8_sails_73 : decode cX8_sails 73 = .ok (.iconst 2, 1) := by decide +kernel
theorem dX8_sails_74 : decode cX8_sails 74 = .ok (.invokevirtual 69, 3) := by decide +kernel
theorem dX8_sails_77 : decode cX8_sails 77 = .ok (.ireturn, 1) := by decide +kernel
theorem dX8_sails_78 : decode cX8_sails 78 = .ok (.iconst 0, 1) := by decide +kernel
theorem dX8_sails_79 : decode cX8_sails 79 = .ok (.istore 5, 2) := by decide +kernel
theorem dX8_sails_81 : decode cX8_sails 81 = .ok (.iload 5, 2) := by decide +kernel
theorem dX8_sails_83 : decode cX8_sails 83 = .ok (.iload 4, 2) := by decide +kernel
theorem dX8_sails_85 : decode cX8_sails 85 = .ok (.if_icmp .ge 33, 3) := by decide +kernel
theorem dX8_sails_88 : decode cX8_sails 88 = .ok (.aload_n 0, 1) := by decide +kernel
theorem dX8_sails_89 : decode cX8_sails 89 = .ok (.aload_n 0, 1) := by decide +kernel
theorem dX8_sails_90 : decode cX8_sails 90 = .ok (.getfield 16, 3) := by decide +kernel
theorem dX8_sails_93 : decode cX8_sails 93 = .ok (.bipush 40, 2) := by decide +kernel
theorem dX8_sails_95 : decode cX8_sails 95 = .ok (.iload_n 2, 1) := by decide +kernel
theorem dX8_sails_96 : decode cX8_sails 96 = .ok (.imul, 1) := by decide +kernel
theorem dX8_sails_97 : decode cX8_sails 97 = .ok (.iload_n 3, 1) := by decide +kernel
theorem dX8_sails_98 : decode cX8_sails 98 = .ok (.iadd, 1) := by decide +kernel
theorem dX8_sails_99 : decode cX8_sails 99 = .ok (.iload 5, 2) := by decide +kernel
theorem dX8_sails_101 : decode cX8_sails 101 = .ok (.iadd, 1) := by decide +kernel
theorem dX8_sails_102 : decode cX8_sails 102 = .ok (.iaload, 1) := by decide +kernel
theorem dX8_sails_103 : decode cX8_sails 103 = .ok (.invokevirtual 202, 3) := by decide +kernel
theorem dX8_sails_106 : decode cX8_sails 106 = .ok (.ifCond .ne 6, 3) := by decide +kernel
theorem dX8_sails_109 : decode cX8_sails 109 = .ok (.ldc 68, 2) := by decide +kernel
theorem dX8_sails_111 : decode cX8_sails 111 = .ok (.ireturn, 1) := by decide +kernel
theorem dX8_sails_112 : decode cX8_sails 112 = .ok (.iinc 5 1, 3) := by decide +kernel
theorem dX8_sails_115 : decode cX8_sails 115 = .ok (.goto (-34), 3) := by decide +kernel
theorem dX8_sails_118 : decode cX8_sails 118 = .ok (.aload_n 0, 1) := by decide +kernel
theorem dX8_sails_119 : decode cX8_sails 119 = .ok (.iconst 0, 1) := by decide +kernel
theorem dX8_sails_120 : decode cX8_sails 120 = .ok (.putfield 52, 3) := by decide +kernel
theorem dX8_sails_123 : decode cX8_sails 123 = .ok (.iconst 0, 1) := by decide +kernel
theorem dX8_sails_124 : decode cX8_sails 124 = .ok (.istore 5, 2) := by decide +kernel
theorem dX8_sails_126 : decode cX8_sails 126 = .ok (.iload 5, 2) := by decide +kernel
theorem dX8_sails_128 : decode cX8_sails 128 = .ok (.iload 4, 2) := by decide +kernel
theorem dX8_sails_130 : decode cX8_sails 130 = .ok (.if_icmp .ge 31, 3) := by decide +kernel
theorem dX8_sails_133 : decode cX8_sails 133 = .ok (.aload_n 0, 1) := by decide +kernel
theorem dX8_sails_134 : decode cX8_sails 134 = .ok (.iload_n 1, 1) := by decide +kernel
theorem dX8_sails_135 : decode cX8_sails 135 = .ok (.aload_n 0, 1) := by decide +kernel
theorem dX8_sails_136 : decode cX8_sails 136 = .ok (.getfield 16, 3) := by decide +kernel
theorem dX8_sails_139 : decode cX8_sails 139 = .ok (.bipush 40, 2) := by decide +kernel
theorem dX8_sails_141 : decode cX8_sails 141 = .ok (.iload_n 2, 1) := by decide +kernel
theorem dX8_sails_142 : decode cX8_sails 142 = .ok (.imul, 1) := by decide +kernel
theorem dX8_sails_143 : decode cX8_sails 143 = .ok (.iload_n 3, 1) := by decide +kernel
theorem dX8_sails_144 : decode cX8_sails 144 = .ok (.iadd, 1) := by decide +kernel
theorem dX8_sails_145 : decode cX8_sails 145 = .ok (.iload 5, 2) := by decide +kernel
theorem dX8_sails_147 : decode cX8_sails 147 = .ok (.iadd, 1) := by decide +kernel
theorem dX8_sails_148 : decode cX8_sails 148 = .ok (.iaload, 1) := by decide +kernel
theorem dX8_sails_149 : decode cX8_sails 149 = .ok (.invokevirtual 205, 3) := by decide +kernel
theorem dX8_sails_152 : decode cX8_sails 152 = .ok (.ifCond .lt 9, 3) := by decide +kernel
theorem dX8_sails_155 : decode cX8_sails 155 = .ok (.iinc 5 1, 3) := by decide +kernel
theorem dX8_sails_158 : decode cX8_sails 158 = .ok (.goto (-32), 3) := by decide +kernel
theorem dX8_sails_161 : decode cX8_sails 161 = .ok (.iload 5, 2) := by decide +kernel
theorem dX8_sails_163 : decode cX8_sails 163 = .ok (.ireturn, 1) := by decide +kernel
theorem dX8_stay_0 : decode cX8_stay 0 = .ok (.aload_n 0, 1) := by decide +kernel
theorem dX8_stay_1 : decode cX8_stay 1 = .ok (.iconst 0, 1) := by decide +kernel
theorem dX8_stay_2 : decode cX8_stay 2 = .ok (.putfield 48, 3) := by decide +kernel
theorem dX8_stay_5 : decode cX8_stay 5 = .ok (.aload_n 0, 1) := by decide +kernel
theorem dX8_stay_6 : decode cX8_stay 6 = .ok (.iload_n 1, 1) := by decide +kernel
theorem dX8_stay_7 : decode cX8_stay 7 = .ok (.invokevirtual 199, 3) := by decide +kernel
theorem dX8_stay_10 : decode cX8_stay 10 = .ok (.ifCond .eq 15, 3) := by decide +kernel
theorem dX8_stay_13 : decode cX8_stay 13 = .ok (.iload_n 2, 1) := by decide +kernel
theorem dX8_stay_14 : decode cX8_stay 14 = .ok (.i2l, 1) := by decide +kernel
theorem dX8_stay_15 : decode cX8_stay 15 = .ok (.lconst 1, 1) := by decide +kernel
theorem dX8_stay_16 : decode cX8_stay 16 = .ok (.ldc2_w 210, 3) := by decide +kernel
theorem dX8_stay_19 : decode cX8_stay 19 = .ok (.invokestatic 58, 3) := by decide +kernel
theorem dX8_stay_22 : decode cX8_stay 22 = .ok (.ifCond .ne 6, 3) := by decide +kernel
theorem dX8_stay_25 : decode cX8_stay 25 = .ok (.ldc 68, 2) := by decide +kernel
theorem dX8_stay_27 : decode cX8_stay 27 = .ok (.ireturn, 1) := by decide +kernel
theorem dX8_stay_28 : decode cX8_stay 28 = .ok (.aload_n 0, 1) := by decide +kernel
theorem dX8_stay_29 : decode cX8_stay 29 = .ok (.iload_n 1, 1) := by decide +kernel
theorem dX8_stay_30 : decode cX8_stay 30 = .ok (.iconst 3, 1) := by decide +kernel
theorem dX8_stay_31 : decode cX8_stay 31 = .ok (.invokevirtual 181, 3) := by decide +kernel
theorem dX8_stay_34 : decode cX8_stay 34 = .ok (.iload_n 2, 1) := by decide +kernel
theorem dX8_stay_35 : decode cX8_stay 35 = .ok (.iadd, 1) := by decide +kernel
theorem dX8_stay_36 : decode cX8_stay 36 = .ok (.sipush 200, 3) := by decide +kernel
theorem dX8_stay_39 : decode cX8_stay 39 = .ok (.if_icmp .le 6, 3) := by decide +kernel
theorem dX8_stay_42 : decode cX8_stay 42 = .ok (.ldc 78, 2) := by decide +kernel
theorem dX8_stay_44 : decode cX8_stay 44 = .ok (.ireturn, 1) := by decide +kernel
theorem dX8_stay_45 : decode cX8_stay 45 = .ok (.aload_n 0, 1) := by decide +kernel
theorem dX8_stay_46 : decode cX8_stay 46 = .ok (.invokevirtual 189, 3) := by decide +kernel
theorem dX8_stay_49 : decode cX8_stay 49 = .ok (.aload_n 0, 1) := by decide +kernel
theorem dX8_stay_50 : decode cX8_stay 50 = .ok (.iload_n 1, 1) := by decide +kernel
theorem dX8_stay_51 : decode cX8_stay 51 = .ok (.iload_n 2, 1) := by decide +kernel
theorem dX8_stay_52 : decode cX8_stay 52 = .ok (.iload_n 2, 1) := by decide +kernel
theorem dX8_stay_53 : decode cX8_stay 53 = .ok (.invokevirtual 195, 3) := by decide +kernel
theorem dX8_stay_56 : decode cX8_stay 56 = .ok (.aload_n 0, 1) := by decide +kernel
theorem dX8_stay_57 : decode cX8_stay 57 = .ok (.iload_n 1, 1) := by decide +kernel
theorem dX8_stay_58 : decode cX8_stay 58 = .ok (.iconst 4, 1) := by decide +kernel
theorem dX8_stay_59 : decode cX8_stay 59 = .ok (.invokevirtual 181, 3) := by decide +kernel
theorem dX8_stay_62 : decode cX8_stay 62 = .ok (.ireturn, 1) := by decide +kernel
theorem dX8_meet_0 : decode cX8_meet 0 = .ok (.aload_n 0, 1) := by decide +kernel
theorem dX8_meet_1 : decode cX8_meet 1 = .ok (.iconst 0, 1) := by decide +kernel
theorem dX8_meet_2 : decode cX8_meet 2 = .ok (.putfield 48, 3) := by decide +kernel
theorem dX8_meet_5 : decode cX8_meet 5 = .ok (.aload_n 0, 1) := by decide +kernel
theorem dX8_meet_6 : decode cX8_meet 6 = .ok (.iload_n 1, 1) := by decide +kernel
theorem dX8_meet_7 : decode cX8_meet 7 = .ok (.invokevirtual 199, 3) := by decide +kernel
theorem dX8_meet_10 : decode cX8_meet 10 = .ok (.ifCond .eq 16, 3) := by decide +kernel
theorem dX8_meet_13 : decode cX8_meet 13 = .ok (.aload_n 0, 1) := by decide +kernel
theorem dX8_meet_14 : decode cX8_meet 14 = .ok (.iload_n 2, 1) := by decide +kernel
theorem dX8_meet_15 : decode cX8_meet 15 = .ok (.invokevirtual 199, 3) := by decide +kernel
theorem dX8_meet_18 : decode cX8_meet 18 = .ok (.ifCond .eq 8, 3) := by decide +kernel
theorem dX8_meet_21 : decode cX8_meet 21 = .ok (.iload_n 1, 1) := by decide +kernel
theorem dX8_meet_22 : decode cX8_meet 22 = .ok (.iload_n 2, 1) := by decide +kernel
theorem dX8_meet_23 : decode cX8_meet 23 = .ok (.if_icmp .ne 6, 3) := by decide +kernel
theorem dX8_meet_26 : decode cX8_meet 26 = .ok (.ldc 68, 2) := by decide +kernel
theorem dX8_meet_28 : decode cX8_meet 28 = .ok (.ireturn, 1) := by decide +kernel
theorem dX8_meet_29 : decode cX8_meet 29 = .ok (.aload_n 0, 1) := by decide +kernel
theorem dX8_meet_30 : decode cX8_meet 30 = .ok (.iload_n 1, 1) := by decide +kernel
theorem dX8_meet_31 : decode cX8_meet 31 = .ok (.iconst 1, 1) := by decide +kernel
theorem dX8_meet_32 : decode cX8_meet 32 = .ok (.invokevirtual 181, 3) := by decide +kernel
theorem dX8_meet_35 : decode cX8_meet 35 = .ok (.aload_n 0, 1) := by decide +kernel
theorem dX8_meet_36 : decode cX8_meet 36 = .ok (.iload_n 2, 1) := by decide +kernel
theorem dX8_meet_37 : decode cX8_meet 37 = .ok (.iconst 1, 1) := by decide +kernel
theorem dX8_meet_38 : decode cX8_meet 38 = .ok (.invokevirtual 181, 3) := by decide +kernel
theorem dX8_meet_41 : decode cX8_meet 41 = .ok (.if_icmp .eq 6, 3) := by decide +kernel
theorem dX8_meet_44 : decode cX8_meet 44 = .ok (.ldc 188, 2) := by decide +kernel
theorem dX8_meet_46 : decode cX8_meet 46 = .ok (.ireturn, 1) := by decide +kernel
theorem dX8_meet_47 : decode cX8_meet 47 = .ok (.aload_n 0, 1) := by decide +kernel
theorem dX8_meet_48 : decode cX8_meet 48 = .ok (.invokevirtual 189, 3) := by decide +kernel
theorem dX8_meet_51 : decode cX8_meet 51 = .ok (.aload_n 0, 1) := by decide +kernel
theorem dX8_meet_52 : decode cX8_meet 52 = .ok (.iload_n 1, 1) := by decide +kernel
theorem dX8_meet_53 : decode cX8_meet 53 = .ok (.iconst 3, 1) := by decide +kernel
theorem dX8_meet_54 : decode cX8_meet 54 = .ok (.invokevirtual 181, 3) := by decide +kernel
theorem dX8_meet_57 : decode cX8_meet 57 = .ok (.aload_n 0, 1) := by decide +kernel
theorem dX8_meet_58 : decode cX8_meet 58 = .ok (.iload_n 2, 1) := by decide +kernel
theorem dX8_meet_59 : decode cX8_meet 59 = .ok (.iconst 3, 1) := by decide +kernel
theorem dX8_meet_60 : decode cX8_meet 60 = .ok (.invokevirtual 181, 3) := by decide +kernel
theorem dX8_meet_63 : decode cX8_meet 63 = .ok (.isub, 1) := by decide +kernel
theorem dX8_meet_64 : decode cX8_meet 64 = .ok (.istore_n 3, 1) := by decide +kernel
theorem dX8_meet_65 : decode cX8_meet 65 = .ok (.aload_n 0, 1) := by decide +kernel
theorem dX8_meet_66 : decode cX8_meet 66 = .ok (.iload_n 3, 1) := by decide +kernel
theorem dX8_meet_67 : decode cX8_meet 67 = .ok (.ifCond .ge 7, 3) := by decide +kernel
theorem dX8_meet_70 : decode cX8_meet 70 = .ok (.iload_n 1, 1) := by decide +kernel
theorem dX8_meet_71 : decode cX8_meet 71 = .ok (.goto 4, 3) := by decide +kernel
theorem dX8_meet_74 : decode cX8_meet 74 = .ok (.iload_n 2, 1) := by decide +kernel
theorem dX8_meet_75 : decode cX8_meet 75 = .ok (.iload_n 3, 1) := by decide +kernel
theorem dX8_meet_76 : decode cX8_meet 76 = .ok (.ifCond .ge 8, 3) := by decide +kernel
theorem dX8_meet_79 : decode cX8_meet 79 = .ok (.iload_n 3, 1) := by decide +kernel
theorem dX8_meet_80 : decode cX8_meet 80 = .ok (.ineg, 1) := by decide +kernel
theorem dX8_meet_81 : decode cX8_meet 81 = .ok (.goto 4, 3) := by decide +kernel
theorem dX8_meet_84 : decode cX8_meet 84 = .ok (.iload_n 3, 1) := by decide +kernel
theorem dX8_meet_85 : decode cX8_meet 85 = .ok (.iload_n 3, 1) := by decide +kernel
theorem dX8_meet_86 : decode cX8_meet 86 = .ok (.ifCond .ge 8, 3) := by decide +kernel
theorem dX8_meet_89 : decode cX8_meet 89 = .ok (.iload_n 3, 1) := by decide +kernel
theorem dX8_meet_90 : decode cX8_meet 90 = .ok (.ineg, 1) := by decide +kernel
theorem dX8_meet_91 : decode cX8_meet 91 = .ok (.goto 4, 3) := by decide +kernel
theorem dX8_meet_94 : decode cX8_meet 94 = .ok (.iload_n 3, 1) := by decide +kernel
theorem dX8_meet_95 : decode cX8_meet 95 = .ok (.invokevirtual 195, 3) := by decide +kernel
theorem dX8_meet_98 : decode cX8_meet 98 = .ok (.aload_n 0, 1) := by decide +kernel
theorem dX8_meet_99 : decode cX8_meet 99 = .ok (.iload_n 1, 1) := by decide +kernel
theorem dX8_meet_100 : decode cX8_meet 100 = .ok (.iconst 4, 1) := by decide +kernel
theorem dX8_meet_101 : decode cX8_meet 101 = .ok (.invokevirtual 181, 3) := by decide +kernel
theorem dX8_meet_104 : decode cX8_meet 104 = .ok (.aload_n 0, 1) := by decide +kernel
theorem dX8_meet_105 : decode cX8_meet 105 = .ok (.iload_n 2, 1) := by decide +kernel
theorem dX8_meet_106 : decode cX8_meet 106 = .ok (.iconst 4, 1) := by decide +kernel
theorem dX8_meet_107 : decode cX8_meet 107 = .ok (.invokevirtual 181, 3) := by decide +kernel
theorem dX8_meet_110 : decode cX8_meet 110 = .ok (.isub, 1) := by decide +kernel
theorem dX8_meet_111 : decode cX8_meet 111 = .ok (.ireturn, 1) := by decide +kernel
theorem dX8_grown_0 : decode cX8_grown 0 = .ok (.iload_n 1, 1) := by decide +kernel
theorem dX8_grown_1 : decode cX8_grown 1 = .ok (.istore_n 3, 1) := by decide +kernel
theorem dX8_grown_2 : decode cX8_grown 2 = .ok (.iconst 0, 1) := by decide +kernel
theorem dX8_grown_3 : decode cX8_grown 3 = .ok (.istore 4, 2) := by decide +kernel
theorem dX8_grown_5 : decode cX8_grown 5 = .ok (.iload 4, 2) := by decide +kernel
theorem dX8_grown_7 : decode cX8_grown 7 = .ok (.iload_n 2, 1) := by decide +kernel
theorem dX8_grown_8 : decode cX8_grown 8 = .ok (.if_icmp .ge 39, 3) := by decide +kernel
theorem dX8_grown_11 : decode cX8_grown 11 = .ok (.iload_n 3, 1) := by decide +kernel
theorem dX8_grown_12 : decode cX8_grown 12 = .ok (.iload_n 3, 1) := by decide +kernel
theorem dX8_grown_13 : decode cX8_grown 13 = .ok (.aload_n 0, 1) := by decide +kernel
theorem dX8_grown_14 : decode cX8_grown 14 = .ok (.getfield 19, 3) := by decide +kernel
theorem dX8_grown_17 : decode cX8_grown 17 = .ok (.iconst 1, 1) := by decide +kernel
theorem dX8_grown_18 : decode cX8_grown 18 = .ok (.iaload, 1) := by decide +kernel
theorem dX8_grown_19 : decode cX8_grown 19 = .ok (.imul, 1) := by decide +kernel
theorem dX8_grown_20 : decode cX8_grown 20 = .ok (.bipush 100, 2) := by decide +kernel
theorem dX8_grown_22 : decode cX8_grown 22 = .ok (.idiv, 1) := by decide +kernel
theorem dX8_grown_23 : decode cX8_grown 23 = .ok (.iadd, 1) := by decide +kernel
theorem dX8_grown_24 : decode cX8_grown 24 = .ok (.istore 5, 2) := by decide +kernel
theorem dX8_grown_26 : decode cX8_grown 26 = .ok (.iload 5, 2) := by decide +kernel
theorem dX8_grown_28 : decode cX8_grown 28 = .ok (.ldc 212, 2) := by decide +kernel
theorem dX8_grown_30 : decode cX8_grown 30 = .ok (.if_icmp .le 8, 3) := by decide +kernel
theorem dX8_grown_33 : decode cX8_grown 33 = .ok (.ldc 212, 2) := by decide +kernel
theorem dX8_grown_35 : decode cX8_grown 35 = .ok (.goto 5, 3) := by decide +kernel
theorem dX8_grown_38 : decode cX8_grown 38 = .ok (.iload 5, 2) := by decide +kernel
theorem dX8_grown_40 : decode cX8_grown 40 = .ok (.istore_n 3, 1) := by decide +kernel
theorem dX8_grown_41 : decode cX8_grown 41 = .ok (.iinc 4 1, 3) := by decide +kernel
theorem dX8_grown_44 : decode cX8_grown 44 = .ok (.goto (-39), 3) := by decide +kernel
theorem dX8_grown_47 : decode cX8_grown 47 = .ok (.iload_n 3, 1) := by decide +kernel
theorem dX8_grown_48 : decode cX8_grown 48 = .ok (.ireturn, 1) := by decide +kernel
theorem dX8_owedBy_0 : decode cX8_owedBy 0 = .ok (.aload_n 0, 1) := by decide +kernel
theorem dX8_owedBy_1 : decode cX8_owedBy 1 = .ok (.aload_n 0, 1) := by decide +kernel
theorem dX8_owedBy_2 : decode cX8_owedBy 2 = .ok (.iload_n 1, 1) := by decide +kernel
theorem dX8_owedBy_3 : decode cX8_owedBy 3 = .ok (.iconst 5, 1) := by decide +kernel
theorem dX8_owedBy_4 : decode cX8_owedBy 4 = .ok (.invokevirtual 181, 3) := by decide +kernel
theorem dX8_owedBy_7 : decode cX8_owedBy 7 = .ok (.iload_n 2, 1) := by decide +kernel
theorem dX8_owedBy_8 : decode cX8_owedBy 8 = .ok (.ifCond .ne 20, 3) := by decide +kernel
theorem dX8_owedBy_11 : decode cX8_owedBy 11 = .ok (.aload_n 0, 1) := by decide +kernel
theorem dX8_owedBy_12 : decode cX8_owedBy 12 = .ok (.iload_n 1, 1) := by decide +kernel
theorem dX8_owedBy_13 : decode cX8_owedBy 13 = .ok (.iconst 3, 1) := by decide +kernel
theorem dX8_owedBy_14 : decode cX8_owedBy 14 = .ok (.invokevirtual 181, 3) := by decide +kernel
theorem dX8_owedBy_17 : decode cX8_owedBy 17 = .ok (.aload_n 0, 1) := by decide +kernel
theorem dX8_owedBy_18 : decode cX8_owedBy 18 = .ok (.iload_n 1, 1) := by decide +kernel
theorem dX8_owedBy_19 : decode cX8_owedBy 19 = .ok (.bipush 6, 2) := by decide +kernel
theorem dX8_owedBy_21 : decode cX8_owedBy 21 = .ok (.invokevirtual 181, 3) := by decide +kernel
theorem dX8_owedBy_24 : decode cX8_owedBy 24 = .ok (.isub, 1) := by decide +kernel
theorem dX8_owedBy_25 : decode cX8_owedBy 25 = .ok (.goto 17, 3) := by decide +kernel
theorem dX8_owedBy_28 : decode cX8_owedBy 28 = .ok (.aload_n 0, 1) := by decide +kernel
theorem dX8_owedBy_29 : decode cX8_owedBy 29 = .ok (.iload_n 1, 1) := by decide +kernel
theorem dX8_owedBy_30 : decode cX8_owedBy 30 = .ok (.iconst 4, 1) := by decide +kernel
theorem dX8_owedBy_31 : decode cX8_owedBy 31 = .ok (.invokevirtual 181, 3) := by decide +kernel
theorem dX8_owedBy_34 : decode cX8_owedBy 34 = .ok (.aload_n 0, 1) := by decide +kernel
theorem dX8_owedBy_35 : decode cX8_owedBy 35 = .ok (.iload_n 1, 1) := by decide +kernel
theorem dX8_owedBy_36 : decode cX8_owedBy 36 = .ok (.bipush 7, 2) := by decide +kernel
theorem dX8_owedBy_38 : decode cX8_owedBy 38 = .ok (.invokevirtual 181, 3) := by decide +kernel
theorem dX8_owedBy_41 : decode cX8_owedBy 41 = .ok (.isub, 1) := by decide +kernel
theorem dX8_owedBy_42 : decode cX8_owedBy 42 = .ok (.invokevirtual 213, 3) := by decide +kernel
theorem dX8_owedBy_45 : decode cX8_owedBy 45 = .ok (.ireturn, 1) := by decide +kernel
theorem dX8_borrow_0 : decode cX8_borrow 0 = .ok (.aload_n 0, 1) := by decide +kernel
theorem dX8_borrow_1 : decode cX8_borrow 1 = .ok (.iconst 0, 1) := by decide +kernel
theorem dX8_borrow_2 : decode cX8_borrow 2 = .ok (.putfield 48, 3) := by decide +kernel
theorem dX8_borrow_5 : decode cX8_borrow 5 = .ok (.aload_n 0, 1) := by decide +kernel
theorem dX8_borrow_6 : decode cX8_borrow 6 = .ok (.iload_n 1, 1) := by decide +kernel
theorem dX8_borrow_7 : decode cX8_borrow 7 = .ok (.invokevirtual 199, 3) := by decide +kernel
theorem dX8_borrow_10 : decode cX8_borrow 10 = .ok (.ifCond .eq 15, 3) := by decide +kernel
theorem dX8_borrow_13 : decode cX8_borrow 13 = .ok (.iload_n 2, 1) := by decide +kernel
theorem dX8_borrow_14 : decode cX8_borrow 14 = .ok (.i2l, 1) := by decide +kernel
theorem dX8_borrow_15 : decode cX8_borrow 15 = .ok (.lconst 1, 1) := by decide +kernel
theorem dX8_borrow_16 : decode cX8_borrow 16 = .ok (.ldc2_w 216, 3) := by decide +kernel
theorem dX8_borrow_19 : decode cX8_borrow 19 = .ok (.invokestatic 58, 3) := by decide +kernel
theorem dX8_borrow_22 : decode cX8_borrow 22 = .ok (.ifCond .ne 6, 3) := by decide +kernel
theorem dX8_borrow_25 : decode cX8_borrow 25 = .ok (.ldc 68, 2) := by decide +kernel
theorem dX8_borrow_27 : decode cX8_borrow 27 = .ok (.ireturn, 1) := by decide +kernel
theorem dX8_borrow_28 : decode cX8_borrow 28 = .ok (.aload_n 0, 1) := by decide +kernel
theorem dX8_borrow_29 : decode cX8_borrow 29 = .ok (.invokevirtual 189, 3) := by decide +kernel
theorem dX8_borrow_32 : decode cX8_borrow 32 = .ok (.aload_n 0, 1) := by decide +kernel
theorem dX8_borrow_33 : decode cX8_borrow 33 = .ok (.iload_n 1, 1) := by decide +kernel
theorem dX8_borrow_34 : decode cX8_borrow 34 = .ok (.iconst 0, 1) := by decide +kernel
theorem dX8_borrow_35 : decode cX8_borrow 35 = .ok (.invokevirtual 218, 3) := by decide +kernel
theorem dX8_borrow_38 : decode cX8_borrow 38 = .ok (.istore_n 3, 1) := by decide +kernel
theorem dX8_borrow_39 : decode cX8_borrow 39 = .ok (.aload_n 0, 1) := by decide +kernel
theorem dX8_borrow_40 : decode cX8_borrow 40 = .ok (.getfield 19, 3) := by decide +kernel
theorem dX8_borrow_43 : decode cX8_borrow 43 = .ok (.bipush 36, 2) := by decide +kernel
theorem dX8_borrow_45 : decode cX8_borrow 45 = .ok (.bipush 8, 2) := by decide +kernel
theorem dX8_borrow_47 : decode cX8_borrow 47 = .ok (.iload_n 1, 1) := by decide +kernel
theorem dX8_borrow_48 : decode cX8_borrow 48 = .ok (.imul, 1) := by decide +kernel
theorem dX8_borrow_49 : decode cX8_borrow 49 = .ok (.iadd, 1) := by decide +kernel
theorem dX8_borrow_50 : decode cX8_borrow 50 = .ok (.iconst 5, 1) := by decide +kernel
theorem dX8_borrow_51 : decode cX8_borrow 51 = .ok (.iadd, 1) := by decide +kernel
theorem dX8_borrow_52 : decode cX8_borrow 52 = .ok (.iload_n 2, 1) := by decide +kernel
theorem dX8_borrow_53 : decode cX8_borrow 53 = .ok (.iastore, 1) := by decide +kernel
theorem dX8_borrow_54 : decode cX8_borrow 54 = .ok (.aload_n 0, 1) := by decide +kernel
theorem dX8_borrow_55 : decode cX8_borrow 55 = .ok (.getfield 19, 3) := by decide +kernel
theorem dX8_borrow_58 : decode cX8_borrow 58 = .ok (.bipush 36, 2) := by decide +kernel
theorem dX8_borrow_60 : decode cX8_borrow 60 = .ok (.bipush 8, 2) := by decide +kernel
theorem dX8_borrow_62 : decode cX8_borrow 62 = .ok (.iload_n 1, 1) := by decide +kernel
theorem dX8_borrow_63 : decode cX8_borrow 63 = .ok (.imul, 1) := by decide +kernel
theorem dX8_borrow_64 : decode cX8_borrow 64 = .ok (.iadd, 1) := by decide +kernel
theorem dX8_borrow_65 : decode cX8_borrow 65 = .ok (.bipush 6, 2) := by decide +kernel
theorem dX8_borrow_67 : decode cX8_borrow 67 = .ok (.iadd, 1) := by decide +kernel
theorem dX8_borrow_68 : decode cX8_borrow 68 = .ok (.aload_n 0, 1) := by decide +kernel
theorem dX8_borrow_69 : decode cX8_borrow 69 = .ok (.iload_n 1, 1) := by decide +kernel
theorem dX8_borrow_70 : decode cX8_borrow 70 = .ok (.iconst 3, 1) := by decide +kernel
theorem dX8_borrow_71 : decode cX8_borrow 71 = .ok (.invokevirtual 181, 3) := by decide +kernel
theorem dX8_borrow_74 : decode cX8_borrow 74 = .ok (.iastore, 1) := by decide +kernel
theorem dX8_borrow_75 : decode cX8_borrow 75 = .ok (.aload_n 0, 1) := by decide +kernel
theorem dX8_borrow_76 : decode cX8_borrow 76 = .ok (.getfield 19, 3) := by decide +kernel
theorem dX8_borrow_79 : decode cX8_borrow 79 = .ok (.bipush 36, 2) := by decide +kernel
theorem dX8_borrow_81 : decode cX8_borrow 81 = .ok (.bipush 8, 2) := by decide +kernel
theorem dX8_borrow_83 : decode cX8_borrow 83 = .ok (.iload_n 1, 1) := by decide +kernel
theorem dX8_borrow_84 : decode cX8_borrow 84 = .ok (.imul, 1) := by decide +kernel
theorem dX8_borrow_85 : decode cX8_borrow 85 = .ok (.iadd, 1) := by decide +kernel
theorem dX8_borrow_86 : decode cX8_borrow 86 = .ok (.bipush 7, 2) := by decide +kernel
theorem dX8_borrow_88 : decode cX8_borrow 88 = .ok (.iadd, 1) := by decide +kernel
theorem dX8_borrow_89 : decode cX8_borrow 89 = .ok (.aload_n 0, 1) := by decide +kernel
theorem dX8_borrow_90 : decode cX8_borrow 90 = .ok (.iload_n 1, 1) := by decide +kernel
theorem dX8_borrow_91 : decode cX8_borrow 91 = .ok (.iconst 4, 1) := by decide +kernel
theorem dX8_borrow_92 : decode cX8_borrow 92 = .ok (.invokevirtual 181, 3) := by decide +kernel
theorem dX8_borrow_95 : decode cX8_borrow 95 = .ok (.iastore, 1) := by decide +kernel
theorem dX8_borrow_96 : decode cX8_borrow 96 = .ok (.iload_n 3, 1) := by decide +kernel
theorem dX8_borrow_97 : decode cX8_borrow 97 = .ok (.ireturn, 1) := by decide +kernel
theorem dX8_undo_0 : decode cX8_undo 0 = .ok (.aload_n 0, 1) := by decide +kernel
theorem dX8_undo_1 : decode cX8_undo 1 = .ok (.iconst 0, 1) := by decide +kernel
theorem dX8_undo_2 : decode cX8_undo 2 = .ok (.putfield 48, 3) := by decide +kernel
theorem dX8_undo_5 : decode cX8_undo 5 = .ok (.aload_n 0, 1) := by decide +kernel
theorem dX8_undo_6 : decode cX8_undo 6 = .ok (.getfield 175, 3) := by decide +kernel
theorem dX8_undo_9 : decode cX8_undo 9 = .ok (.ifCond .ne 6, 3) := by decide +kernel
theorem dX8_undo_12 : decode cX8_undo 12 = .ok (.ldc 188, 2) := by decide +kernel
theorem dX8_undo_14 : decode cX8_undo 14 = .ok (.ireturn, 1) := by decide +kernel
theorem dX8_undo_15 : decode cX8_undo 15 = .ok (.aload_n 0, 1) := by decide +kernel
theorem dX8_undo_16 : decode cX8_undo 16 = .ok (.dup, 1) := by decide +kernel
theorem dX8_undo_17 : decode cX8_undo 17 = .ok (.getfield 175, 3) := by decide +kernel
theorem dX8_undo_20 : decode cX8_undo 20 = .ok (.iconst 1, 1) := by decide +kernel
theorem dX8_undo_21 : decode cX8_undo 21 = .ok (.isub, 1) := by decide +kernel
theorem dX8_undo_22 : decode cX8_undo 22 = .ok (.putfield 175, 3) := by decide +kernel
theorem dX8_undo_25 : decode cX8_undo 25 = .ok (.iconst 0, 1) := by decide +kernel
theorem dX8_undo_26 : decode cX8_undo 26 = .ok (.istore_n 1, 1) := by decide +kernel
theorem dX8_undo_27 : decode cX8_undo 27 = .ok (.iload_n 1, 1) := by decide +kernel
theorem dX8_undo_28 : decode cX8_undo 28 = .ok (.bipush 68, 2) := by decide +kernel
theorem dX8_undo_30 : decode cX8_undo 30 = .ok (.if_icmp .ge 29, 3) := by decide +kernel
theorem dX8_undo_33 : decode cX8_undo 33 = .ok (.aload_n 0, 1) := by decide +kernel
theorem dX8_undo_34 : decode cX8_undo 34 = .ok (.getfield 19, 3) := by decide +kernel
theorem dX8_undo_37 : decode cX8_undo 37 = .ok (.iload_n 1, 1) := by decide +kernel
theorem dX8_undo_38 : decode cX8_undo 38 = .ok (.aload_n 0, 1) := by decide +kernel
theorem dX8_undo_39 : decode cX8_undo 39 = .ok (.getfield 25, 3) := by decide +kernel
theorem dX8_undo_42 : decode cX8_undo 42 = .ok (.bipush 68, 2) := by decide +kernel
theorem dX8_undo_44 : decode cX8_undo 44 = .ok (.aload_n 0, 1) := by decide +kernel
theorem dX8_undo_45 : decode cX8_undo 45 = .ok (.getfield 175, 3) := by decide +kernel
theorem dX8_undo_48 : decode cX8_undo 48 = .ok (.imul, 1) := by decide +kernel
theorem dX8_undo_49 : decode cX8_undo 49 = .ok (.iload_n 1, 1) := by decide +kernel
theorem dX8_undo_50 : decode cX8_undo 50 = .ok (.iadd, 1) := by decide +kernel
theorem dX8_undo_51 : decode cX8_undo 51 = .ok (.iaload, 1) := by decide +kernel
theorem dX8_undo_52 : decode cX8_undo 52 = .ok (.iastore, 1) := by decide +kernel
theorem dX8_undo_53 : decode cX8_undo 53 = .ok (.iinc 1 1, 3) := by decide +kernel
theorem dX8_undo_56 : decode cX8_undo 56 = .ok (.goto (-29), 3) := by decide +kernel
theorem dX8_undo_59 : decode cX8_undo 59 = .ok (.aload_n 0, 1) := by decide +kernel
theorem dX8_undo_60 : decode cX8_undo 60 = .ok (.getfield 175, 3) := by decide +kernel
theorem dX8_undo_63 : decode cX8_undo 63 = .ok (.ireturn, 1) := by decide +kernel
theorem dX8_person_0 : decode cX8_person 0 = .ok (.aload_n 0, 1) := by decide +kernel
theorem dX8_person_1 : decode cX8_person 1 = .ok (.iconst 0, 1) := by decide +kernel
theorem dX8_person_2 : decode cX8_person 2 = .ok (.putfield 48, 3) := by decide +kernel
theorem dX8_person_5 : decode cX8_person 5 = .ok (.aload_n 0, 1) := by decide +kernel
theorem dX8_person_6 : decode cX8_person 6 = .ok (.iload_n 1, 1) := by decide +kernel
theorem dX8_person_7 : decode cX8_person 7 = .ok (.invokevirtual 199, 3) := by decide +kernel
theorem dX8_person_10 : decode cX8_person 10 = .ok (.ifCond .eq 15, 3) := by decide +kernel
theorem dX8_person_13 : decode cX8_person 13 = .ok (.iload_n 2, 1) := by decide +kernel
theorem dX8_person_14 : decode cX8_person 14 = .ok (.i2l, 1) := by decide +kernel
theorem dX8_person_15 : decode cX8_person 15 = .ok (.lconst 0, 1) := by decide +kernel
theorem dX8_person_16 : decode cX8_person 16 = .ok (.ldc2_w 221, 3) := by decide +kernel
theorem dX8_person_19 : decode cX8_person 19 = .ok (.invokestatic 58, 3) := by decide +kernel
theorem dX8_person_22 : decode cX8_person 22 = .ok (.ifCond .ne 6, 3) := by decide +kernel
theorem dX8_person_25 : decode cX8_person 25 = .ok (.ldc 68, 2) := by decide +kernel
theorem dX8_person_27 : decode cX8_person 27 = .ok (.ireturn, 1) := by decide +kernel
theorem dX8_person_28 : decode cX8_person 28 = .ok (.iload_n 2, 1) := by decide +kernel
theorem dX8_person_29 : decode cX8_person 29 = .ok (.tableswitch 73 0 3 #[31, 38, 45, 52], 31) := by decide +kernel
theorem dX8_person_60 : decode cX8_person 60 = .ok (.aload_n 0, 1) := by decide +kernel
theorem dX8_person_61 : decode cX8_person 61 = .ok (.iload_n 1, 1) := by decide +kernel
theorem dX8_person_62 : decode cX8_person 62 = .ok (.iconst 1, 1) := by decide +kernel
theorem dX8_person_63 : decode cX8_person 63 = .ok (.invokevirtual 181, 3) := by decide +kernel
theorem dX8_person_66 : decode cX8_person 66 = .ok (.ireturn, 1) := by decide +kernel
theorem dX8_person_67 : decode cX8_person 67 = .ok (.aload_n 0, 1) := by decide +kernel
theorem dX8_person_68 : decode cX8_person 68 = .ok (.iload_n 1, 1) := by decide +kernel
theorem dX8_person_69 : decode cX8_person 69 = .ok (.iconst 3, 1) := by decide +kernel
theorem dX8_person_70 : decode cX8_person 70 = .ok (.invokevirtual 181, 3) := by decide +kernel
theorem dX8_person_73 : decode cX8_person 73 = .ok (.ireturn, 1) := by decide +kernel
theorem dX8_person_74 : decode cX8_person 74 = .ok (.aload_n 0, 1) := by decide +kernel
theorem dX8_person_75 : decode cX8_person 75 = .ok (.iload_n 1, 1) := by decide +kernel
theorem dX8_person_76 : decode cX8_person 76 = .ok (.iconst 4, 1) := by decide +kernel
theorem dX8_person_77 : decode cX8_person 77 = .ok (.invokevirtual 181, 3) := by decide +kernel
theorem dX8_person_80 : decode cX8_person 80 = .ok (.ireturn, 1) := by decide +kernel
theorem dX8_person_81 : decode cX8_person 81 = .ok (.aload_n 0, 1) := by decide +kernel
theorem dX8_person_82 : decode cX8_person 82 = .ok (.iload_n 1, 1) := by decide +kernel
theorem dX8_person_83 : decode cX8_person 83 = .ok (.iconst 3, 1) := by decide +kernel
theorem dX8_person_84 : decode cX8_person 84 = .ok (.invokevirtual 181, 3) := by decide +kernel
theorem dX8_person_87 : decode cX8_person 87 = .ok (.aload_n 0, 1) := by decide +kernel
theorem dX8_person_88 : decode cX8_person 88 = .ok (.iload_n 1, 1) := by decide +kernel
theorem dX8_person_89 : decode cX8_person 89 = .ok (.iconst 2, 1) := by decide +kernel
theorem dX8_person_90 : decode cX8_person 90 = .ok (.invokevirtual 181, 3) := by decide +kernel
theorem dX8_person_93 : decode cX8_person 93 = .ok (.iadd, 1) := by decide +kernel
theorem dX8_person_94 : decode cX8_person 94 = .ok (.aload_n 0, 1) := by decide +kernel
theorem dX8_person_95 : decode cX8_person 95 = .ok (.iload_n 1, 1) := by decide +kernel
theorem dX8_person_96 : decode cX8_person 96 = .ok (.iconst 4, 1) := by decide +kernel
theorem dX8_person_97 : decode cX8_person 97 = .ok (.invokevirtual 181, 3) := by decide +kernel
theorem dX8_person_100 : decode cX8_person 100 = .ok (.isub, 1) := by decide +kernel
theorem dX8_person_101 : decode cX8_person 101 = .ok (.ireturn, 1) := by decide +kernel
theorem dX8_person_102 : decode cX8_person 102 = .ok (.aload_n 0, 1) := by decide +kernel
theorem dX8_person_103 : decode cX8_person 103 = .ok (.iload_n 1, 1) := by decide +kernel
theorem dX8_person_104 : decode cX8_person 104 = .ok (.iload_n 2, 1) := by decide +kernel
theorem dX8_person_105 : decode cX8_person 105 = .ok (.iconst 4, 1) := by decide +kernel
theorem dX8_person_106 : decode cX8_person 106 = .ok (.isub, 1) := by decide +kernel
theorem dX8_person_107 : decode cX8_person 107 = .ok (.invokevirtual 218, 3) := by decide +kernel
theorem dX8_person_110 : decode cX8_person 110 = .ok (.ireturn, 1) := by decide +kernel
theorem dX8_layGains_0 : decode cX8_layGains 0 = .ok (.iconst 0, 1) := by decide +kernel
theorem dX8_layGains_1 : decode cX8_layGains 1 = .ok (.istore_n 2, 1) := by decide +kernel
theorem dX8_layGains_2 : decode cX8_layGains 2 = .ok (.iload_n 2, 1) := by decide +kernel
theorem dX8_layGains_3 : decode cX8_layGains 3 = .ok (.sipush 205, 3) := by decide +kernel
theorem dX8_layGains_6 : decode cX8_layGains 6 = .ok (.if_icmp .ge 16, 3) := by decide +kernel
theorem dX8_layGains_9 : decode cX8_layGains 9 = .ok (.aload_n 0, 1) := by decide +kernel
theorem dX8_layGains_10 : decode cX8_layGains 10 = .ok (.getfield 31, 3) := by decide +kernel
theorem dX8_layGains_13 : decode cX8_layGains 13 = .ok (.iload_n 2, 1) := by decide +kernel
theorem dX8_layGains_14 : decode cX8_layGains 14 = .ok (.lconst 0, 1) := by decide +kernel
theorem dX8_layGains_15 : decode cX8_layGains 15 = .ok (.lastore, 1) := by decide +kernel
theorem dX8_layGains_16 : decode cX8_layGains 16 = .ok (.iinc 2 1, 3) := by decide +kernel
theorem dX8_layGains_19 : decode cX8_layGains 19 = .ok (.goto (-17), 3) := by decide +kernel
theorem dX8_layGains_22 : decode cX8_layGains 22 = .ok (.aload_n 0, 1) := by decide +kernel
theorem dX8_layGains_23 : decode cX8_layGains 23 = .ok (.getfield 31, 3) := by decide +kernel
theorem dX8_layGains_26 : decode cX8_layGains 26 = .ok (.aload_n 0, 1) := by decide +kernel
theorem dX8_layGains_27 : decode cX8_layGains 27 = .ok (.iload_n 1, 1) := by decide +kernel
theorem dX8_layGains_28 : decode cX8_layGains 28 = .ok (.iconst 1, 1) := by decide +kernel
theorem dX8_layGains_29 : decode cX8_layGains 29 = .ok (.invokevirtual 181, 3) := by decide +kernel
theorem dX8_layGains_32 : decode cX8_layGains 32 = .ok (.lconst 1, 1) := by decide +kernel
theorem dX8_layGains_33 : decode cX8_layGains 33 = .ok (.lastore, 1) := by decide +kernel
theorem dX8_layGains_34 : decode cX8_layGains 34 = .ok (.iconst 0, 1) := by decide +kernel
theorem dX8_layGains_35 : decode cX8_layGains 35 = .ok (.istore_n 2, 1) := by decide +kernel
theorem dX8_layGains_36 : decode cX8_layGains 36 = .ok (.iload_n 2, 1) := by decide +kernel
theorem dX8_layGains_37 : decode cX8_layGains 37 = .ok (.bipush 40, 2) := by decide +kernel
theorem dX8_layGains_39 : decode cX8_layGains 39 = .ok (.if_icmp .ge 144, 3) := by decide +kernel
theorem dX8_layGains_42 : decode cX8_layGains 42 = .ok (.iconst 0, 1) := by decide +kernel
theorem dX8_layGains_43 : decode cX8_layGains 43 = .ok (.istore_n 3, 1) := by decide +kernel
theorem dX8_layGains_44 : decode cX8_layGains 44 = .ok (.iload_n 3, 1) := by decide +kernel
theorem dX8_layGains_45 : decode cX8_layGains 45 = .ok (.aload_n 0, 1) := by decide +kernel
theorem dX8_layGains_46 : decode cX8_layGains 46 = .ok (.getfield 19, 3) := by decide +kernel
theorem dX8_layGains_49 : decode cX8_layGains 49 = .ok (.iconst 0, 1) := by decide +kernel
theorem dX8_layGains_50 : decode cX8_layGains 50 = .ok (.iaload, 1) := by decide +kernel
theorem dX8_layGains_51 : decode cX8_layGains 51 = .ok (.if_icmp .ge 126, 3) := by decide +kernel
theorem dX8_layGains_54 : decode cX8_layGains 54 = .ok (.aload_n 0, 1) := by decide +kernel
theorem dX8_layGains_55 : decode cX8_layGains 55 = .ok (.getfield 31, 3) := by decide +kernel
theorem dX8_layGains_58 : decode cX8_layGains 58 = .ok (.iconst 5, 1) := by decide +kernel
theorem dX8_layGains_59 : decode cX8_layGains 59 = .ok (.iload_n 2, 1) := by decide +kernel
theorem dX8_layGains_60 : decode cX8_layGains 60 = .ok (.imul, 1) := by decide +kernel
theorem dX8_layGains_61 : decode cX8_layGains 61 = .ok (.iload_n 3, 1) := by decide +kernel
theorem dX8_layGains_62 : decode cX8_layGains 62 = .ok (.iadd, 1) := by decide +kernel
theorem dX8_layGains_63 : decode cX8_layGains 63 = .ok (.laload, 1) := by decide +kernel
theorem dX8_layGains_64 : decode cX8_layGains 64 = .ok (.lstore 4, 2) := by decide +kernel
theorem dX8_layGains_66 : decode cX8_layGains 66 = .ok (.aload_n 0, 1) := by decide +kernel
theorem dX8_layGains_67 : decode cX8_layGains 67 = .ok (.getfield 31, 3) := by decide +kernel
theorem dX8_layGains_70 : decode cX8_layGains 70 = .ok (.iconst 5, 1) := by decide +kernel
theorem dX8_layGains_71 : decode cX8_layGains 71 = .ok (.iload_n 2, 1) := by decide +kernel
theorem dX8_layGains_72 : decode cX8_layGains 72 = .ok (.imul, 1) := by decide +kernel
theorem dX8_layGains_73 : decode cX8_layGains 73 = .ok (.iconst 5, 1) := by decide +kernel
theorem dX8_layGains_74 : decode cX8_layGains 74 = .ok (.iadd, 1) := by decide +kernel
theorem dX8_layGains_75 : decode cX8_layGains 75 = .ok (.iload_n 3, 1) := by decide +kernel
theorem dX8_layGains_76 : decode cX8_layGains 76 = .ok (.iadd, 1) := by decide +kernel
theorem dX8_layGains_77 : decode cX8_layGains 77 = .ok (.dup2, 1) := by decide +kernel
theorem dX8_layGains_78 : decode cX8_layGains 78 = .ok (.laload, 1) := by decide +kernel
theorem dX8_layGains_79 : decode cX8_layGains 79 = .ok (.lload 4, 2) := by decide +kernel
theorem dX8_layGains_81 : decode cX8_layGains 81 = .ok (.lor, 1) := by decide +kernel
theorem dX8_layGains_82 : decode cX8_layGains 82 = .ok (.lastore, 1) := by decide +kernel
theorem dX8_layGains_83 : decode cX8_layGains 83 = .ok (.iconst 0, 1) := by decide +kernel
theorem dX8_layGains_84 : decode cX8_layGains 84 = .ok (.istore 6, 2) := by decide +kernel
theorem dX8_layGains_86 : decode cX8_layGains 86 = .ok (.iload 6, 2) := by decide +kernel
theorem dX8_layGains_88 : decode cX8_layGains 88 = .ok (.aload_n 0, 1) := by decide +kernel
theorem dX8_layGains_89 : decode cX8_layGains 89 = .ok (.getfield 19, 3) := by decide +kernel
theorem dX8_layGains_92 : decode cX8_layGains 92 = .ok (.iconst 2, 1) := by decide +kernel
theorem dX8_layGains_93 : decode cX8_layGains 93 = .ok (.iaload, 1) := by decide +kernel
theorem dX8_layGains_94 : decode cX8_layGains 94 = .ok (.if_icmp .ge 77, 3) := by decide +kernel
theorem dX8_layGains_97 : decode cX8_layGains 97 = .ok (.aload_n 0, 1) := by decide +kernel
theorem dX8_layGains_98 : decode cX8_layGains 98 = .ok (.iload_n 1, 1) := by decide +kernel
theorem dX8_layGains_99 : decode cX8_layGains 99 = .ok (.iload 6, 2) := by decide +kernel
theorem dX8_layGains_101 : decode cX8_layGains 101 = .ok (.iload_n 3, 1) := by decide +kernel
theorem dX8_layGains_102 : decode cX8_layGains 102 = .ok (.invokevirtual 184, 3) := by decide +kernel
theorem dX8_layGains_105 : decode cX8_layGains 105 = .ok (.istore 7, 2) := by decide +kernel
theorem dX8_layGains_107 : decode cX8_layGains 107 = .ok (.iload_n 2, 1) := by decide +kernel
theorem dX8_layGains_108 : decode cX8_layGains 108 = .ok (.aload_n 0, 1) := by decide +kernel
theorem dX8_layGains_109 : decode cX8_layGains 109 = .ok (.iload 6, 2) := by decide +kernel
theorem dX8_layGains_111 : decode cX8_layGains 111 = .ok (.iconst 2, 1) := by decide +kernel
theorem dX8_layGains_112 : decode cX8_layGains 112 = .ok (.invokevirtual 178, 3) := by decide +kernel
theorem dX8_layGains_115 : decode cX8_layGains 115 = .ok (.iadd, 1) := by decide +kernel
theorem dX8_layGains_116 : decode cX8_layGains 116 = .ok (.istore 8, 2) := by decide +kernel
theorem dX8_layGains_118 : decode cX8_layGains 118 = .ok (.iload 7, 2) := by decide +kernel
theorem dX8_layGains_120 : decode cX8_layGains 120 = .ok (.ldc 84, 2) := by decide +kernel
theorem dX8_layGains_122 : decode cX8_layGains 122 = .ok (.if_icmp .eq 43, 3) := by decide +kernel
theorem dX8_layGains_125 : decode cX8_layGains 125 = .ok (.iload 8, 2) := by decide +kernel
theorem dX8_layGains_127 : decode cX8_layGains 127 = .ok (.bipush 40, 2) := by decide +kernel
theorem dX8_layGains_129 : decode cX8_layGains 129 = .ok (.if_icmp .gt 36, 3) := by decide +kernel
theorem dX8_layGains_132 : decode cX8_layGains 132 = .ok (.aload_n 0, 1) := by decide +kernel
theorem dX8_layGains_133 : decode cX8_layGains 133 = .ok (.getfield 31, 3) := by decide +kernel
theorem dX8_layGains_136 : decode cX8_layGains 136 = .ok (.iconst 5, 1) := by decide +kernel
theorem dX8_layGains_137 : decode cX8_layGains 137 = .ok (.iload 8, 2) := by decide +kernel
theorem dX8_layGains_139 : decode cX8_layGains 139 = .ok (.imul, 1) := by decide +kernel
theorem dX8_layGains_140 : decode cX8_layGains 140 = .ok (.iload 7, 2) := by decide +kernel
theorem dX8_layGains_142 : decode cX8_layGains 142 = .ok (.iadd, 1) := by decide +kernel
theorem dX8_layGains_143 : decode cX8_layGains 143 = .ok (.dup2, 1) := by decide +kernel
theorem dX8_layGains_144 : decode cX8_layGains 144 = .ok (.laload, 1) := by decide +kernel
theorem dX8_layGains_145 : decode cX8_layGains 145 = .ok (.lload 4, 2) := by decide +kernel
theorem dX8_layGains_147 : decode cX8_layGains 147 = .ok (.aload_n 0, 1) := by decide +kernel
theorem dX8_layGains_148 : decode cX8_layGains 148 = .ok (.iload 6, 2) := by decide +kernel
theorem dX8_layGains_150 : decode cX8_layGains 150 = .ok (.iconst 2, 1) := by decide +kernel
theorem dX8_layGains_151 : decode cX8_layGains 151 = .ok (.invokevirtual 178, 3) := by decide +kernel
theorem dX8_layGains_154 : decode cX8_layGains 154 = .ok (.aload_n 0, 1) := by decide +kernel
theorem dX8_layGains_155 : decode cX8_layGains 155 = .ok (.iload_n 1, 1) := by decide +kernel
theorem dX8_layGains_156 : decode cX8_layGains 156 = .ok (.iload 6, 2) := by decide +kernel
theorem dX8_layGains_158 : decode cX8_layGains 158 = .ok (.invokevirtual 192, 3) := by decide +kernel
theorem dX8_layGains_161 : decode cX8_layGains 161 = .ok (.isub, 1) := by decide +kernel
theorem dX8_layGains_162 : decode cX8_layGains 162 = .ok (.lshl, 1) := by decide +kernel
theorem dX8_layGains_163 : decode cX8_layGains 163 = .ok (.lor, 1) := by decide +kernel
theorem dX8_layGains_164 : decode cX8_layGains 164 = .ok (.lastore, 1) := by decide +kernel
theorem dX8_layGains_165 : decode cX8_layGains 165 = .ok (.iinc 6 1, 3) := by decide +kernel
theorem dX8_layGains_168 : decode cX8_layGains 168 = .ok (.goto (-82), 3) := by decide +kernel
theorem dX8_layGains_171 : decode cX8_layGains 171 = .ok (.iinc 3 1, 3) := by decide +kernel
theorem dX8_layGains_174 : decode cX8_layGains 174 = .ok (.goto (-130), 3) := by decide +kernel
theorem dX8_layGains_177 : decode cX8_layGains 177 = .ok (.iinc 2 1, 3) := by decide +kernel
theorem dX8_layGains_180 : decode cX8_layGains 180 = .ok (.goto (-144), 3) := by decide +kernel
theorem dX8_layGains_183 : decode cX8_layGains 183 = .ok (.return_, 1) := by decide +kernel
theorem dX8_gains_0 : decode cX8_gains 0 = .ok (.aload_n 0, 1) := by decide +kernel
theorem dX8_gains_1 : decode cX8_gains 1 = .ok (.iconst 0, 1) := by decide +kernel
theorem dX8_gains_2 : decode cX8_gains 2 = .ok (.putfield 48, 3) := by decide +kernel
theorem dX8_gains_5 : decode cX8_gains 5 = .ok (.aload_n 0, 1) := by decide +kernel
theorem dX8_gains_6 : decode cX8_gains 6 = .ok (.iload_n 1, 1) := by decide +kernel
theorem dX8_gains_7 : decode cX8_gains 7 = .ok (.invokevirtual 199, 3) := by decide +kernel
theorem dX8_gains_10 : decode cX8_gains 10 = .ok (.ifCond .eq 36, 3) := by decide +kernel
theorem dX8_gains_13 : decode cX8_gains 13 = .ok (.aload_n 0, 1) := by decide +kernel
theorem dX8_gains_14 : decode cX8_gains 14 = .ok (.iload_n 2, 1) := by decide +kernel
theorem dX8_gains_15 : decode cX8_gains 15 = .ok (.invokevirtual 223, 3) := by decide +kernel
theorem dX8_gains_18 : decode cX8_gains 18 = .ok (.ifCond .eq 28, 3) := by decide +kernel
theorem dX8_gains_21 : decode cX8_gains 21 = .ok (.iload_n 3, 1) := by decide +kernel
theorem dX8_gains_22 : decode cX8_gains 22 = .ok (.i2l, 1) := by decide +kernel
theorem dX8_gains_23 : decode cX8_gains 23 = .ok (.lconst 0, 1) := by decide +kernel
theorem dX8_gains_24 : decode cX8_gains 24 = .ok (.ldc2_w 226, 3) := by decide +kernel
theorem dX8_gains_27 : decode cX8_gains 27 = .ok (.invokestatic 58, 3) := by decide +kernel
theorem dX8_gains_30 : decode cX8_gains 30 = .ok (.ifCond .eq 16, 3) := by decide +kernel
theorem dX8_gains_33 : decode cX8_gains 33 = .ok (.iload 4, 2) := by decide +kernel
theorem dX8_gains_35 : decode cX8_gains 35 = .ok (.i2l, 1) := by decide +kernel
theorem dX8_gains_36 : decode cX8_gains 36 = .ok (.lconst 0, 1) := by decide +kernel
theorem dX8_gains_37 : decode cX8_gains 37 = .ok (.ldc2_w 66, 3) := by decide +kernel
theorem dX8_gains_40 : decode cX8_gains 40 = .ok (.invokestatic 58, 3) := by decide +kernel
theorem dX8_gains_43 : decode cX8_gains 43 = .ok (.ifCond .ne 6, 3) := by decide +kernel
theorem dX8_gains_46 : decode cX8_gains 46 = .ok (.ldc 68, 2) := by decide +kernel
theorem dX8_gains_48 : decode cX8_gains 48 = .ok (.ireturn, 1) := by decide +kernel
theorem dX8_gains_49 : decode cX8_gains 49 = .ok (.aload_n 0, 1) := by decide +kernel
theorem dX8_gains_50 : decode cX8_gains 50 = .ok (.iload_n 1, 1) := by decide +kernel
theorem dX8_gains_51 : decode cX8_gains 51 = .ok (.invokevirtual 228, 3) := by decide +kernel
theorem dX8_gains_54 : decode cX8_gains 54 = .ok (.iconst 0, 1) := by decide +kernel
theorem dX8_gains_55 : decode cX8_gains 55 = .ok (.istore 5, 2) := by decide +kernel
theorem dX8_gains_57 : decode cX8_gains 57 = .ok (.ldc 84, 2) := by decide +kernel
theorem dX8_gains_59 : decode cX8_gains 59 = .ok (.istore 6, 2) := by decide +kernel
theorem dX8_gains_61 : decode cX8_gains 61 = .ok (.ldc 84, 2) := by decide +kernel
theorem dX8_gains_63 : decode cX8_gains 63 = .ok (.istore 7, 2) := by decide +kernel
theorem dX8_gains_65 : decode cX8_gains 65 = .ok (.iconst 0, 1) := by decide +kernel
theorem dX8_gains_66 : decode cX8_gains 66 = .ok (.istore 8, 2) := by decide +kernel
theorem dX8_gains_68 : decode cX8_gains 68 = .ok (.iload 8, 2) := by decide +kernel
theorem dX8_gains_70 : decode cX8_gains 70 = .ok (.bipush 40, 2) := by decide +kernel
theorem dX8_gains_72 : decode cX8_gains 72 = .ok (.if_icmp .gt 52, 3) := by decide +kernel
theorem dX8_gains_75 : decode cX8_gains 75 = .ok (.aload_n 0, 1) := by decide +kernel
theorem dX8_gains_76 : decode cX8_gains 76 = .ok (.getfield 31, 3) := by decide +kernel
theorem dX8_gains_79 : decode cX8_gains 79 = .ok (.iconst 5, 1) := by decide +kernel
theorem dX8_gains_80 : decode cX8_gains 80 = .ok (.iload_n 3, 1) := by decide +kernel
theorem dX8_gains_81 : decode cX8_gains 81 = .ok (.imul, 1) := by decide +kernel
theorem dX8_gains_82 : decode cX8_gains 82 = .ok (.iload_n 2, 1) := by decide +kernel
theorem dX8_gains_83 : decode cX8_gains 83 = .ok (.iadd, 1) := by decide +kernel
theorem dX8_gains_84 : decode cX8_gains 84 = .ok (.laload, 1) := by decide +kernel
theorem dX8_gains_85 : decode cX8_gains 85 = .ok (.iload 8, 2) := by decide +kernel
theorem dX8_gains_87 : decode cX8_gains 87 = .ok (.lshr, 1) := by decide +kernel
theorem dX8_gains_88 : decode cX8_gains 88 = .ok (.lconst 1, 1) := by decide +kernel
theorem dX8_gains_89 : decode cX8_gains 89 = .ok (.land, 1) := by decide +kernel
theorem dX8_gains_90 : decode cX8_gains 90 = .ok (.lconst 1, 1) := by decide +kernel
theorem dX8_gains_91 : decode cX8_gains 91 = .ok (.lcmp, 1) := by decide +kernel
theorem dX8_gains_92 : decode cX8_gains 92 = .ok (.ifCond .ne 26, 3) := by decide +kernel
theorem dX8_gains_95 : decode cX8_gains 95 = .ok (.iinc 5 1, 3) := by decide +kernel
theorem dX8_gains_98 : decode cX8_gains 98 = .ok (.iload 6, 2) := by decide +kernel
theorem dX8_gains_100 : decode cX8_gains 100 = .ok (.ldc 84, 2) := by decide +kernel
theorem dX8_gains_102 : decode cX8_gains 102 = .ok (.if_icmp .ne 8, 3) := by decide +kernel
theorem dX8_gains_105 : decode cX8_gains 105 = .ok (.iload 8, 2) := by decide +kernel
theorem dX8_gains_107 : decode cX8_gains 107 = .ok (.goto 5, 3) := by decide +kernel
theorem dX8_gains_110 : decode cX8_gains 110 = .ok (.iload 6, 2) := by decide +kernel
theorem dX8_gains_112 : decode cX8_gains 112 = .ok (.istore 6, 2) := by decide +kernel
theorem dX8_gains_114 : decode cX8_gains 114 = .ok (.iload 8, 2) := by decide +kernel
theorem dX8_gains_116 : decode cX8_gains 116 = .ok (.istore 7, 2) := by decide +kernel
theorem dX8_gains_118 : decode cX8_gains 118 = .ok (.iinc 8 1, 3) := by decide +kernel
theorem dX8_gains_121 : decode cX8_gains 121 = .ok (.goto (-53), 3) := by decide +kernel
theorem dX8_gains_124 : decode cX8_gains 124 = .ok (.iload 4, 2) := by decide +kernel
theorem dX8_gains_126 : decode cX8_gains 126 = .ok (.ifCond .ne 8, 3) := by decide +kernel
theorem dX8_gains_129 : decode cX8_gains 129 = .ok (.iload 5, 2) := by decide +kernel
theorem dX8_gains_131 : decode cX8_gains 131 = .ok (.goto 16, 3) := by decide +kernel
theorem dX8_gains_134 : decode cX8_gains 134 = .ok (.iload 4, 2) := by decide +kernel
theorem dX8_gains_136 : decode cX8_gains 136 = .ok (.iconst 1, 1) := by decide +kernel
theorem dX8_gains_137 : decode cX8_gains 137 = .ok (.if_icmp .ne 8, 3) := by decide +kernel
theorem dX8_gains_140 : decode cX8_gains 140 = .ok (.iload 6, 2) := by decide +kernel
theorem dX8_gains_142 : decode cX8_gains 142 = .ok (.goto 5, 3) := by decide +kernel
theorem dX8_gains_145 : decode cX8_gains 145 = .ok (.iload 7, 2) := by decide +kernel
theorem dX8_gains_147 : decode cX8_gains 147 = .ok (.ireturn, 1) := by decide +kernel
theorem dX8_soonest_0 : decode cX8_soonest 0 = .ok (.aload_n 0, 1) := by decide +kernel
theorem dX8_soonest_1 : decode cX8_soonest 1 = .ok (.iconst 0, 1) := by decide +kernel
theorem dX8_soonest_2 : decode cX8_soonest 2 = .ok (.putfield 48, 3) := by decide +kernel
theorem dX8_soonest_5 : decode cX8_soonest 5 = .ok (.aload_n 0, 1) := by decide +kernel
theorem dX8_soonest_6 : decode cX8_soonest 6 = .ok (.iload_n 1, 1) := by decide +kernel
theorem dX8_soonest_7 : decode cX8_soonest 7 = .ok (.invokevirtual 199, 3) := by decide +kernel
theorem dX8_soonest_10 : decode cX8_soonest 10 = .ok (.ifCond .eq 23, 3) := by decide +kernel
theorem dX8_soonest_13 : decode cX8_soonest 13 = .ok (.aload_n 0, 1) := by decide +kernel
theorem dX8_soonest_14 : decode cX8_soonest 14 = .ok (.iload_n 2, 1) := by decide +kernel
theorem dX8_soonest_15 : decode cX8_soonest 15 = .ok (.invokevirtual 223, 3) := by decide +kernel
theorem dX8_soonest_18 : decode cX8_soonest 18 = .ok (.ifCond .eq 15, 3) := by decide +kernel
theorem dX8_soonest_21 : decode cX8_soonest 21 = .ok (.iload_n 3, 1) := by decide +kernel
theorem dX8_soonest_22 : decode cX8_soonest 22 = .ok (.i2l, 1) := by decide +kernel
theorem dX8_soonest_23 : decode cX8_soonest 23 = .ok (.lconst 0, 1) := by decide +kernel
theorem dX8_soonest_24 : decode cX8_soonest 24 = .ok (.ldc2_w 226, 3) := by decide +kernel
theorem dX8_soonest_27 : decode cX8_soonest 27 = .ok (.invokestatic 58, 3) := by decide +kernel
theorem dX8_soonest_30 : decode cX8_soonest 30 = .ok (.ifCond .ne 6, 3) := by decide +kernel
theorem dX8_soonest_33 : decode cX8_soonest 33 = .ok (.ldc 68, 2) := by decide +kernel
theorem dX8_soonest_35 : decode cX8_soonest 35 = .ok (.ireturn, 1) := by decide +kernel
theorem dX8_soonest_36 : decode cX8_soonest 36 = .ok (.aload_n 0, 1) := by decide +kernel
theorem dX8_soonest_37 : decode cX8_soonest 37 = .ok (.iload_n 1, 1) := by decide +kernel
theorem dX8_soonest_38 : decode cX8_soonest 38 = .ok (.invokevirtual 228, 3) := by decide +kernel
theorem dX8_soonest_41 : decode cX8_soonest 41 = .ok (.iconst 0, 1) := by decide +kernel
theorem dX8_soonest_42 : decode cX8_soonest 42 = .ok (.istore 4, 2) := by decide +kernel
theorem dX8_soonest_44 : decode cX8_soonest 44 = .ok (.iload 4, 2) := by decide +kernel
theorem dX8_soonest_46 : decode cX8_soonest 46 = .ok (.bipush 40, 2) := by decide +kernel
theorem dX8_soonest_48 : decode cX8_soonest 48 = .ok (.if_icmp .gt 32, 3) := by decide +kernel
theorem dX8_soonest_51 : decode cX8_soonest 51 = .ok (.aload_n 0, 1) := by decide +kernel
theorem dX8_soonest_52 : decode cX8_soonest 52 = .ok (.getfield 31, 3) := by decide +kernel
theorem dX8_soonest_55 : decode cX8_soonest 55 = .ok (.iconst 5, 1) := by decide +kernel
theorem dX8_soonest_56 : decode cX8_soonest 56 = .ok (.iload 4, 2) := by decide +kernel
theorem dX8_soonest_58 : decode cX8_soonest 58 = .ok (.imul, 1) := by decide +kernel
theorem dX8_soonest_59 : decode cX8_soonest 59 = .ok (.iload_n 2, 1) := by decide +kernel
theorem dX8_soonest_60 : decode cX8_soonest 60 = .ok (.iadd, 1) := by decide +kernel
theorem dX8_soonest_61 : decode cX8_soonest 61 = .ok (.laload, 1) := by decide +kernel
theorem dX8_soonest_62 : decode cX8_soonest 62 = .ok (.iload_n 3, 1) := by decide +kernel
theorem dX8_soonest_63 : decode cX8_soonest 63 = .ok (.lshr, 1) := by decide +kernel
theorem dX8_soonest_64 : decode cX8_soonest 64 = .ok (.lconst 1, 1) := by decide +kernel
theorem dX8_soonest_65 : decode cX8_soonest 65 = .ok (.land, 1) := by decide +kernel
theorem dX8_soonest_66 : decode cX8_soonest 66 = .ok (.lconst 1, 1) := by decide +kernel
theorem dX8_soonest_67 : decode cX8_soonest 67 = .ok (.lcmp, 1) := by decide +kernel
theorem dX8_soonest_68 : decode cX8_soonest 68 = .ok (.ifCond .ne 6, 3) := by decide +kernel
theorem dX8_soonest_71 : decode cX8_soonest 71 = .ok (.iload 4, 2) := by decide +kernel
theorem dX8_soonest_73 : decode cX8_soonest 73 = .ok (.ireturn, 1) := by decide +kernel
theorem dX8_soonest_74 : decode cX8_soonest 74 = .ok (.iinc 4 1, 3) := by decide +kernel
theorem dX8_soonest_77 : decode cX8_soonest 77 = .ok (.goto (-33), 3) := by decide +kernel
theorem dX8_soonest_80 : decode cX8_soonest 80 = .ok (.ldc 84, 2) := by decide +kernel
theorem dX8_soonest_82 : decode cX8_soonest 82 = .ok (.ireturn, 1) := by decide +kernel
theorem dX8_voyages_0 : decode cX8_voyages 0 = .ok (.aload_n 0, 1) := by decide +kernel
theorem dX8_voyages_1 : decode cX8_voyages 1 = .ok (.iconst 0, 1) := by decide +kernel
theorem dX8_voyages_2 : decode cX8_voyages 2 = .ok (.putfield 48, 3) := by decide +kernel
theorem dX8_voyages_5 : decode cX8_voyages 5 = .ok (.aload_n 0, 1) := by decide +kernel
theorem dX8_voyages_6 : decode cX8_voyages 6 = .ok (.iload_n 1, 1) := by decide +kernel
theorem dX8_voyages_7 : decode cX8_voyages 7 = .ok (.invokevirtual 199, 3) := by decide +kernel
theorem dX8_voyages_10 : decode cX8_voyages 10 = .ok (.ifCond .eq 11, 3) := by decide +kernel
theorem dX8_voyages_13 : decode cX8_voyages 13 = .ok (.aload_n 0, 1) := by decide +kernel
theorem dX8_voyages_14 : decode cX8_voyages 14 = .ok (.iload_n 2, 1) := by decide +kernel
theorem dX8_voyages_15 : decode cX8_voyages 15 = .ok (.invokevirtual 223, 3) := by decide +kernel
theorem dX8_voyages_18 : decode cX8_voyages 18 = .ok (.ifCond .ne 6, 3) := by decide +kernel
theorem dX8_voyages_21 : decode cX8_voyages 21 = .ok (.ldc 68, 2) := by decide +kernel
theorem dX8_voyages_23 : decode cX8_voyages 23 = .ok (.ireturn, 1) := by decide +kernel
theorem dX8_voyages_24 : decode cX8_voyages 24 = .ok (.iconst 1, 1) := by decide +kernel
theorem dX8_voyages_25 : decode cX8_voyages 25 = .ok (.aload_n 0, 1) := by decide +kernel
theorem dX8_voyages_26 : decode cX8_voyages 26 = .ok (.iload_n 1, 1) := by decide +kernel
theorem dX8_voyages_27 : decode cX8_voyages 27 = .ok (.iconst 1, 1) := by decide +kernel
theorem dX8_voyages_28 : decode cX8_voyages 28 = .ok (.invokevirtual 181, 3) := by decide +kernel
theorem dX8_voyages_31 : decode cX8_voyages 31 = .ok (.ishl, 1) := by decide +kernel
theorem dX8_voyages_32 : decode cX8_voyages 32 = .ok (.istore_n 3, 1) := by decide +kernel
theorem dX8_voyages_33 : decode cX8_voyages 33 = .ok (.iconst 0, 1) := by decide +kernel
theorem dX8_voyages_34 : decode cX8_voyages 34 = .ok (.istore 4, 2) := by decide +kernel
theorem dX8_voyages_36 : decode cX8_voyages 36 = .ok (.iload 4, 2) := by decide +kernel
theorem dX8_voyages_38 : decode cX8_voyages 38 = .ok (.iconst 5, 1) := by decide +kernel
theorem dX8_voyages_39 : decode cX8_voyages 39 = .ok (.if_icmp .ge 108, 3) := by decide +kernel
theorem dX8_voyages_42 : decode cX8_voyages 42 = .ok (.iload_n 3, 1) := by decide +kernel
theorem dX8_voyages_43 : decode cX8_voyages 43 = .ok (.iload_n 2, 1) := by decide +kernel
theorem dX8_voyages_44 : decode cX8_voyages 44 = .ok (.ishr, 1) := by decide +kernel
theorem dX8_voyages_45 : decode cX8_voyages 45 = .ok (.iconst 1, 1) := by decide +kernel
theorem dX8_voyages_46 : decode cX8_voyages 46 = .ok (.iand, 1) := by decide +kernel
theorem dX8_voyages_47 : decode cX8_voyages 47 = .ok (.iconst 1, 1) := by decide +kernel
theorem dX8_voyages_48 : decode cX8_voyages 48 = .ok (.if_icmp .ne 6, 3) := by decide +kernel
theorem dX8_voyages_51 : decode cX8_voyages 51 = .ok (.iload 4, 2) := by decide +kernel
theorem dX8_voyages_53 : decode cX8_voyages 53 = .ok (.ireturn, 1) := by decide +kernel
theorem dX8_voyages_54 : decode cX8_voyages 54 = .ok (.iload_n 3, 1) := by decide +kernel
theorem dX8_voyages_55 : decode cX8_voyages 55 = .ok (.istore 5, 2) := by decide +kernel
theorem dX8_voyages_57 : decode cX8_voyages 57 = .ok (.iconst 0, 1) := by decide +kernel
theorem dX8_voyages_58 : decode cX8_voyages 58 = .ok (.istore 6, 2) := by decide +kernel
theorem dX8_voyages_60 : decode cX8_voyages 60 = .ok (.iload 6, 2) := by decide +kernel
theorem dX8_voyages_62 : decode cX8_voyages 62 = .ok (.aload_n 0, 1) := by decide +kernel
theorem dX8_voyages_63 : decode cX8_voyages 63 = .ok (.getfield 19, 3) := by decide +kernel
theorem dX8_voyages_66 : decode cX8_voyages 66 = .ok (.iconst 0, 1) := by decide +kernel
theorem dX8_voyages_67 : decode cX8_voyages 67 = .ok (.iaload, 1) := by decide +kernel
theorem dX8_voyages_68 : decode cX8_voyages 68 = .ok (.if_icmp .ge 70, 3) := by decide +kernel
theorem dX8_voyages_71 : decode cX8_voyages 71 = .ok (.iconst 0, 1) := by decide +kernel
theorem dX8_voyages_72 : decode cX8_voyages 72 = .ok (.istore 7, 2) := by decide +kernel
theorem dX8_voyages_74 : decode cX8_voyages 74 = .ok (.iload 7, 2) := by decide +kernel
theorem dX8_voyages_76 : decode cX8_voyages 76 = .ok (.aload_n 0, 1) := by decide +kernel
theorem dX8_voyages_77 : decode cX8_voyages 77 = .ok (.getfield 19, 3) := by decide +kernel
theorem dX8_voyages_80 : decode cX8_voyages 80 = .ok (.iconst 2, 1) := by decide +kernel
theorem dX8_voyages_81 : decode cX8_voyages 81 = .ok (.iaload, 1) := by decide +kernel
theorem dX8_voyages_82 : decode cX8_voyages 82 = .ok (.if_icmp .ge 50, 3) := by decide +kernel
theorem dX8_voyages_85 : decode cX8_voyages 85 = .ok (.iload_n 3, 1) := by decide +kernel
theorem dX8_voyages_86 : decode cX8_voyages 86 = .ok (.iload 6, 2) := by decide +kernel
theorem dX8_voyages_88 : decode cX8_voyages 88 = .ok (.ishr, 1) := by decide +kernel
theorem dX8_voyages_89 : decode cX8_voyages 89 = .ok (.iconst 1, 1) := by decide +kernel
theorem dX8_voyages_90 : decode cX8_voyages 90 = .ok (.iand, 1) := by decide +kernel
theorem dX8_voyages_91 : decode cX8_voyages 91 = .ok (.iconst 1, 1) := by decide +kernel
theorem dX8_voyages_92 : decode cX8_voyages 92 = .ok (.if_icmp .ne 40, 3) := by decide +kernel
theorem dX8_voyages_95 : decode cX8_voyages 95 = .ok (.aload_n 0, 1) := by decide +kernel
theorem dX8_voyages_96 : decode cX8_voyages 96 = .ok (.iload_n 1, 1) := by decide +kernel
theorem dX8_voyages_97 : decode cX8_voyages 97 = .ok (.iload 7, 2) := by decide +kernel
theorem dX8_voyages_99 : decode cX8_voyages 99 = .ok (.iload 6, 2) := by decide +kernel
theorem dX8_voyages_101 : decode cX8_voyages 101 = .ok (.invokevirtual 184, 3) := by decide +kernel
theorem dX8_voyages_104 : decode cX8_voyages 104 = .ok (.istore 8, 2) := by decide +kernel
theorem dX8_voyages_106 : decode cX8_voyages 106 = .ok (.iload 5, 2) := by decide +kernel
theorem dX8_voyages_108 : decode cX8_voyages 108 = .ok (.iload 8, 2) := by decide +kernel
theorem dX8_voyages_110 : decode cX8_voyages 110 = .ok (.ldc 84, 2) := by decide +kernel
theorem dX8_voyages_112 : decode cX8_voyages 112 = .ok (.if_icmp .eq 10, 3) := by decide +kernel
theorem dX8_voyages_115 : decode cX8_voyages 115 = .ok (.iconst 1, 1) := by decide +kernel
theorem dX8_voyages_116 : decode cX8_voyages 116 = .ok (.iload 8, 2) := by decide +kernel
theorem dX8_voyages_118 : decode cX8_voyages 118 = .ok (.ishl, 1) := by decide +kernel
theorem dX8_voyages_119 : decode cX8_voyages 119 = .ok (.goto 4, 3) := by decide +kernel
theorem dX8_voyages_122 : decode cX8_voyages 122 = .ok (.iconst 0, 1) := by decide +kernel
theorem dX8_voyages_123 : decode cX8_voyages 123 = .ok (.ior, 1) := by decide +kernel
theorem dX8_voyages_124 : decode cX8_voyages 124 = .ok (.istore 5, 2) := by decide +kernel
theorem dX8_voyages_126 : decode cX8_voyages 126 = .ok (.iinc 7 1, 3) := by decide +kernel
theorem dX8_voyages_129 : decode cX8_voyages 129 = .ok (.goto (-55), 3) := by decide +kernel
theorem dX8_voyages_132 : decode cX8_voyages 132 = .ok (.iinc 6 1, 3) := by decide +kernel
theorem dX8_voyages_135 : decode cX8_voyages 135 = .ok (.goto (-75), 3) := by decide +kernel
theorem dX8_voyages_138 : decode cX8_voyages 138 = .ok (.iload 5, 2) := by decide +kernel
theorem dX8_voyages_140 : decode cX8_voyages 140 = .ok (.istore_n 3, 1) := by decide +kernel
theorem dX8_voyages_141 : decode cX8_voyages 141 = .ok (.iinc 4 1, 3) := by decide +kernel
theorem dX8_voyages_144 : decode cX8_voyages 144 = .ok (.goto (-108), 3) := by decide +kernel
theorem dX8_voyages_147 : decode cX8_voyages 147 = .ok (.ldc 84, 2) := by decide +kernel
theorem dX8_voyages_149 : decode cX8_voyages 149 = .ok (.ireturn, 1) := by decide +kernel
theorem dX8_even_0 : decode cX8_even 0 = .ok (.aload_n 0, 1) := by decide +kernel
theorem dX8_even_1 : decode cX8_even 1 = .ok (.iconst 0, 1) := by decide +kernel
theorem dX8_even_2 : decode cX8_even 2 = .ok (.putfield 48, 3) := by decide +kernel
theorem dX8_even_5 : decode cX8_even 5 = .ok (.aload_n 0, 1) := by decide +kernel
theorem dX8_even_6 : decode cX8_even 6 = .ok (.iload_n 1, 1) := by decide +kernel
theorem dX8_even_7 : decode cX8_even 7 = .ok (.invokevirtual 199, 3) := by decide +kernel
theorem dX8_even_10 : decode cX8_even 10 = .ok (.ifCond .eq 24, 3) := by decide +kernel
theorem dX8_even_13 : decode cX8_even 13 = .ok (.aload_n 0, 1) := by decide +kernel
theorem dX8_even_14 : decode cX8_even 14 = .ok (.iload_n 2, 1) := by decide +kernel
theorem dX8_even_15 : decode cX8_even 15 = .ok (.invokevirtual 199, 3) := by decide +kernel
theorem dX8_even_18 : decode cX8_even 18 = .ok (.ifCond .eq 16, 3) := by decide +kernel
theorem dX8_even_21 : decode cX8_even 21 = .ok (.iload_n 1, 1) := by decide +kernel
theorem dX8_even_22 : decode cX8_even 22 = .ok (.iload_n 2, 1) := by decide +kernel
theorem dX8_even_23 : decode cX8_even 23 = .ok (.if_icmp .eq 11, 3) := by decide +kernel
theorem dX8_even_26 : decode cX8_even 26 = .ok (.aload_n 0, 1) := by decide +kernel
theorem dX8_even_27 : decode cX8_even 27 = .ok (.iload_n 3, 1) := by decide +kernel
theorem dX8_even_28 : decode cX8_even 28 = .ok (.invokevirtual 223, 3) := by decide +kernel
theorem dX8_even_31 : decode cX8_even 31 = .ok (.ifCond .ne 6, 3) := by decide +kernel
theorem dX8_even_34 : decode cX8_even 34 = .ok (.ldc 68, 2) := by decide +kernel
theorem dX8_even_36 : decode cX8_even 36 = .ok (.ireturn, 1) := by decide +kernel
theorem dX8_even_37 : decode cX8_even 37 = .ok (.aload_n 0, 1) := by decide +kernel
theorem dX8_even_38 : decode cX8_even 38 = .ok (.iload_n 2, 1) := by decide +kernel
theorem dX8_even_39 : decode cX8_even 39 = .ok (.invokevirtual 228, 3) := by decide +kernel
theorem dX8_even_42 : decode cX8_even 42 = .ok (.iconst 0, 1) := by decide +kernel
theorem dX8_even_43 : decode cX8_even 43 = .ok (.istore 4, 2) := by decide +kernel
theorem dX8_even_45 : decode cX8_even 45 = .ok (.iload 4, 2) := by decide +kernel
theorem dX8_even_47 : decode cX8_even 47 = .ok (.sipush 205, 3) := by decide +kernel
theorem dX8_even_50 : decode cX8_even 50 = .ok (.if_icmp .ge 23, 3) := by decide +kernel
theorem dX8_even_53 : decode cX8_even 53 = .ok (.aload_n 0, 1) := by decide +kernel
theorem dX8_even_54 : decode cX8_even 54 = .ok (.getfield 35, 3) := by decide +kernel
theorem dX8_even_57 : decode cX8_even 57 = .ok (.iload 4, 2) := by decide +kernel
theorem dX8_even_59 : decode cX8_even 59 = .ok (.aload_n 0, 1) := by decide +kernel
theorem dX8_even_60 : decode cX8_even 60 = .ok (.getfield 31, 3) := by decide +kernel
theorem dX8_even_63 : decode cX8_even 63 = .ok (.iload 4, 2) := by decide +kernel
theorem dX8_even_65 : decode cX8_even 65 = .ok (.laload, 1) := by decide +kernel
theorem dX8_even_66 : decode cX8_even 66 = .ok (.lastore, 1) := by decide +kernel
theorem dX8_even_67 : decode cX8_even 67 = .ok (.iinc 4 1, 3) := by decide +kernel
theorem dX8_even_70 : decode cX8_even 70 = .ok (.goto (-25), 3) := by decide +kernel
theorem dX8_even_73 : decode cX8_even 73 = .ok (.aload_n 0, 1) := by decide +kernel
theorem dX8_even_74 : decode cX8_even 74 = .ok (.iload_n 1, 1) := by decide +kernel
theorem dX8_even_75 : decode cX8_even 75 = .ok (.invokevirtual 228, 3) := by decide +kernel
theorem dX8_even_78 : decode cX8_even 78 = .ok (.aload_n 0, 1) := by decide +kernel
theorem dX8_even_79 : decode cX8_even 79 = .ok (.iload_n 1, 1) := by decide +kernel
theorem dX8_even_80 : decode cX8_even 80 = .ok (.iconst 3, 1) := by decide +kernel
theorem dX8_even_81 : decode cX8_even 81 = .ok (.invokevirtual 181, 3) := by decide +kernel
theorem dX8_even_84 : decode cX8_even 84 = .ok (.aload_n 0, 1) := by decide +kernel
theorem dX8_even_85 : decode cX8_even 85 = .ok (.iload_n 2, 1) := by decide +kernel
theorem dX8_even_86 : decode cX8_even 86 = .ok (.iconst 3, 1) := by decide +kernel
theorem dX8_even_87 : decode cX8_even 87 = .ok (.invokevirtual 181, 3) := by decide +kernel
theorem dX8_even_90 : decode cX8_even 90 = .ok (.if_icmp .le 12, 3) := by decide +kernel
theorem dX8_even_93 : decode cX8_even 93 = .ok (.aload_n 0, 1) := by decide +kernel
theorem dX8_even_94 : decode cX8_even 94 = .ok (.iload_n 1, 1) := by decide +kernel
theorem dX8_even_95 : decode cX8_even 95 = .ok (.iconst 3, 1) := by decide +kernel
theorem dX8_even_96 : decode cX8_even 96 = .ok (.invokevirtual 181, 3) := by decide +kernel
theorem dX8_even_99 : decode cX8_even 99 = .ok (.goto 9, 3) := by decide +kernel
theorem dX8_even_102 : decode cX8_even 102 = .ok (.aload_n 0, 1) := by decide +kernel
theorem dX8_even_103 : decode cX8_even 103 = .ok (.iload_n 2, 1) := by decide +kernel
theorem dX8_even_104 : decode cX8_even 104 = .ok (.iconst 3, 1) := by decide +kernel
theorem dX8_even_105 : decode cX8_even 105 = .ok (.invokevirtual 181, 3) := by decide +kernel
theorem dX8_even_108 : decode cX8_even 108 = .ok (.istore 4, 2) := by decide +kernel
theorem dX8_even_110 : decode cX8_even 110 = .ok (.iload 4, 2) := by decide +kernel
theorem dX8_even_112 : decode cX8_even 112 = .ok (.istore 5, 2) := by decide +kernel
theorem dX8_even_114 : decode cX8_even 114 = .ok (.iload 5, 2) := by decide +kernel
theorem dX8_even_116 : decode cX8_even 116 = .ok (.aload_n 0, 1) := by decide +kernel
theorem dX8_even_117 : decode cX8_even 117 = .ok (.iload_n 1, 1) := by decide +kernel
theorem dX8_even_118 : decode cX8_even 118 = .ok (.iconst 3, 1) := by decide +kernel
theorem dX8_even_119 : decode cX8_even 119 = .ok (.invokevirtual 181, 3) := by decide +kernel
theorem dX8_even_122 : decode cX8_even 122 = .ok (.isub, 1) := by decide +kernel
theorem dX8_even_123 : decode cX8_even 123 = .ok (.bipush 40, 2) := by decide +kernel
theorem dX8_even_125 : decode cX8_even 125 = .ok (.if_icmp .gt 147, 3) := by decide +kernel
theorem dX8_even_128 : decode cX8_even 128 = .ok (.iload 5, 2) := by decide +kernel
theorem dX8_even_130 : decode cX8_even 130 = .ok (.aload_n 0, 1) := by decide +kernel
theorem dX8_even_131 : decode cX8_even 131 = .ok (.iload_n 2, 1) := by decide +kernel
theorem dX8_even_132 : decode cX8_even 132 = .ok (.iconst 3, 1) := by decide +kernel
theorem dX8_even_133 : decode cX8_even 133 = .ok (.invokevirtual 181, 3) := by decide +kernel
theorem dX8_even_136 : decode cX8_even 136 = .ok (.isub, 1) := by decide +kernel
theorem dX8_even_137 : decode cX8_even 137 = .ok (.bipush 40, 2) := by decide +kernel
theorem dX8_even_139 : decode cX8_even 139 = .ok (.if_icmp .gt 133, 3) := by decide +kernel
theorem dX8_even_142 : decode cX8_even 142 = .ok (.iload 5, 2) := by decide +kernel
theorem dX8_even_144 : decode cX8_even 144 = .ok (.aload_n 0, 1) := by decide +kernel
theorem dX8_even_145 : decode cX8_even 145 = .ok (.iload_n 1, 1) := by decide +kernel
theorem dX8_even_146 : decode cX8_even 146 = .ok (.iconst 3, 1) := by decide +kernel
theorem dX8_even_147 : decode cX8_even 147 = .ok (.invokevirtual 181, 3) := by decide +kernel
theorem dX8_even_150 : decode cX8_even 150 = .ok (.isub, 1) := by decide +kernel
theorem dX8_even_151 : decode cX8_even 151 = .ok (.istore 6, 2) := by decide +kernel
theorem dX8_even_153 : decode cX8_even 153 = .ok (.iload 5, 2) := by decide +kernel
theorem dX8_even_155 : decode cX8_even 155 = .ok (.aload_n 0, 1) := by decide +kernel
theorem dX8_even_156 : decode cX8_even 156 = .ok (.iload_n 2, 1) := by decide +kernel
theorem dX8_even_157 : decode cX8_even 157 = .ok (.iconst 3, 1) := by decide +kernel
theorem dX8_even_158 : decode cX8_even 158 = .ok (.invokevirtual 181, 3) := by decide +kernel
theorem dX8_even_161 : decode cX8_even 161 = .ok (.isub, 1) := by decide +kernel
theorem dX8_even_162 : decode cX8_even 162 = .ok (.istore 7, 2) := by decide +kernel
theorem dX8_even_164 : decode cX8_even 164 = .ok (.aload_n 0, 1) := by decide +kernel
theorem dX8_even_165 : decode cX8_even 165 = .ok (.iload_n 1, 1) := by decide +kernel
theorem dX8_even_166 : decode cX8_even 166 = .ok (.iconst 4, 1) := by decide +kernel
theorem dX8_even_167 : decode cX8_even 167 = .ok (.invokevirtual 181, 3) := by decide +kernel
theorem dX8_even_170 : decode cX8_even 170 = .ok (.iload 6, 2) := by decide +kernel
theorem dX8_even_172 : decode cX8_even 172 = .ok (.iadd, 1) := by decide +kernel
theorem dX8_even_173 : decode cX8_even 173 = .ok (.aload_n 0, 1) := by decide +kernel
theorem dX8_even_174 : decode cX8_even 174 = .ok (.iload_n 2, 1) := by decide +kernel
theorem dX8_even_175 : decode cX8_even 175 = .ok (.iconst 4, 1) := by decide +kernel
theorem dX8_even_176 : decode cX8_even 176 = .ok (.invokevirtual 181, 3) := by decide +kernel
theorem dX8_even_179 : decode cX8_even 179 = .ok (.isub, 1) := by decide +kernel
theorem dX8_even_180 : decode cX8_even 180 = .ok (.iload 7, 2) := by decide +kernel
theorem dX8_even_182 : decode cX8_even 182 = .ok (.isub, 1) := by decide +kernel
theorem dX8_even_183 : decode cX8_even 183 = .ok (.istore 8, 2) := by decide +kernel
theorem dX8_even_185 : decode cX8_even 185 = .ok (.iconst 0, 1) := by decide +kernel
theorem dX8_even_186 : decode cX8_even 186 = .ok (.istore 9, 2) := by decide +kernel
theorem dX8_even_188 : decode cX8_even 188 = .ok (.iload 9, 2) := by decide +kernel
theorem dX8_even_190 : decode cX8_even 190 = .ok (.bipush 40, 2) := by decide +kernel
theorem dX8_even_192 : decode cX8_even 192 = .ok (.if_icmp .gt 74, 3) := by decide +kernel
theorem dX8_even_195 : decode cX8_even 195 = .ok (.iload 9, 2) := by decide +kernel
theorem dX8_even_197 : decode cX8_even 197 = .ok (.iload 8, 2) := by decide +kernel
theorem dX8_even_199 : decode cX8_even 199 = .ok (.isub, 1) := by decide +kernel
theorem dX8_even_200 : decode cX8_even 200 = .ok (.istore 10, 2) := by decide +kernel
theorem dX8_even_202 : decode cX8_even 202 = .ok (.aload_n 0, 1) := by decide +kernel
theorem dX8_even_203 : decode cX8_even 203 = .ok (.getfield 31, 3) := by decide +kernel
theorem dX8_even_206 : decode cX8_even 206 = .ok (.iconst 5, 1) := by decide +kernel
theorem dX8_even_207 : decode cX8_even 207 = .ok (.iload 6, 2) := by decide +kernel
theorem dX8_even_209 : decode cX8_even 209 = .ok (.imul, 1) := by decide +kernel
theorem dX8_even_210 : decode cX8_even 210 = .ok (.iload_n 3, 1) := by decide +kernel
theorem dX8_even_211 : decode cX8_even 211 = .ok (.iadd, 1) := by decide +kernel
theorem dX8_even_212 : decode cX8_even 212 = .ok (.laload, 1) := by decide +kernel
theorem dX8_even_213 : decode cX8_even 213 = .ok (.iload 9, 2) := by decide +kernel
theorem dX8_even_215 : decode cX8_even 215 = .ok (.lshr, 1) := by decide +kernel
theorem dX8_even_216 : decode cX8_even 216 = .ok (.lconst 1, 1) := by decide +kernel
theorem dX8_even_217 : decode cX8_even 217 = .ok (.land, 1) := by decide +kernel
theorem dX8_even_218 : decode cX8_even 218 = .ok (.lconst 1, 1) := by decide +kernel
theorem dX8_even_219 : decode cX8_even 219 = .ok (.lcmp, 1) := by decide +kernel
theorem dX8_even_220 : decode cX8_even 220 = .ok (.ifCond .ne 40, 3) := by decide +kernel
theorem dX8_even_223 : decode cX8_even 223 = .ok (.iload 10, 2) := by decide +kernel
theorem dX8_even_225 : decode cX8_even 225 = .ok (.i2l, 1) := by decide +kernel
theorem dX8_even_226 : decode cX8_even 226 = .ok (.lconst 0, 1) := by decide +kernel
theorem dX8_even_227 : decode cX8_even 227 = .ok (.ldc2_w 226, 3) := by decide +kernel
theorem dX8_even_230 : decode cX8_even 230 = .ok (.invokestatic 58, 3) := by decide +kernel
theorem dX8_even_233 : decode cX8_even 233 = .ok (.ifCond .eq 27, 3) := by decide +kernel
theorem dX8_even_236 : decode cX8_even 236 = .ok (.aload_n 0, 1) := by decide +kernel
theorem dX8_even_237 : decode cX8_even 237 = .ok (.getfield 35, 3) := by decide +kernel
theorem dX8_even_240 : decode cX8_even 240 = .ok (.iconst 5, 1) := by decide +kernel
theorem dX8_even_241 : decode cX8_even 241 = .ok (.iload 7, 2) := by decide +kernel
theorem dX8_even_243 : decode cX8_even 243 = .ok (.imul, 1) := by decide +kernel
theorem dX8_even_244 : decode cX8_even 244 = .ok (.iload_n 3, 1) := by decide +kernel
theorem dX8_even_245 : decode cX8_even 245 = .ok (.iadd, 1) := by decide +kernel
theorem dX8_even_246 : decode cX8_even 246 = .ok (.laload, 1) := by decide +kernel
theorem dX8_even_247 : decode cX8_even 247 = .ok (.iload 10, 2) := by decide +kernel
theorem dX8_even_249 : decode cX8_even 249 = .ok (.lshr, 1) := by decide +kernel
theorem dX8_even_250 : decode cX8_even 250 = .ok (.lconst 1, 1) := by decide +kernel
theorem dX8_even_251 : decode cX8_even 251 = .ok (.land, 1) := by decide +kernel
theorem dX8_even_252 : decode cX8_even 252 = .ok (.lconst 1, 1) := by decide +kernel
theorem dX8_even_253 : decode cX8_even 253 = .ok (.lcmp, 1) := by decide +kernel
theorem dX8_even_254 : decode cX8_even 254 = .ok (.ifCond .ne 6, 3) := by decide +kernel
theorem dX8_even_257 : decode cX8_even 257 = .ok (.iload 5, 2) := by decide +kernel
theorem dX8_even_259 : decode cX8_even 259 = .ok (.ireturn, 1) := by decide +kernel
theorem dX8_even_260 : decode cX8_even 260 = .ok (.iinc 9 1, 3) := by decide +kernel
theorem dX8_even_263 : decode cX8_even 263 = .ok (.goto (-75), 3) := by decide +kernel
theorem dX8_even_266 : decode cX8_even 266 = .ok (.iinc 5 1, 3) := by decide +kernel
theorem dX8_even_269 : decode cX8_even 269 = .ok (.goto (-155), 3) := by decide +kernel
theorem dX8_even_272 : decode cX8_even 272 = .ok (.ldc 84, 2) := by decide +kernel
theorem dX8_even_274 : decode cX8_even 274 = .ok (.ireturn, 1) := by decide +kernel
theorem dX8_where_0 : decode cX8_where 0 = .ok (.aload_n 0, 1) := by decide +kernel
theorem dX8_where_1 : decode cX8_where 1 = .ok (.iconst 0, 1) := by decide +kernel
theorem dX8_where_2 : decode cX8_where 2 = .ok (.putfield 48, 3) := by decide +kernel
theorem dX8_where_5 : decode cX8_where 5 = .ok (.aload_n 0, 1) := by decide +kernel
theorem dX8_where_6 : decode cX8_where 6 = .ok (.iload_n 1, 1) := by decide +kernel
theorem dX8_where_7 : decode cX8_where 7 = .ok (.invokevirtual 199, 3) := by decide +kernel
theorem dX8_where_10 : decode cX8_where 10 = .ok (.ifCond .eq 27, 3) := by decide +kernel
theorem dX8_where_13 : decode cX8_where 13 = .ok (.iload_n 2, 1) := by decide +kernel
theorem dX8_where_14 : decode cX8_where 14 = .ok (.i2l, 1) := by decide +kernel
theorem dX8_where_15 : decode cX8_where 15 = .ok (.lconst 0, 1) := by decide +kernel
theorem dX8_where_16 : decode cX8_where 16 = .ok (.ldc2_w 231, 3) := by decide +kernel
theorem dX8_where_19 : decode cX8_where 19 = .ok (.invokestatic 58, 3) := by decide +kernel
theorem dX8_where_22 : decode cX8_where 22 = .ok (.ifCond .eq 15, 3) := by decide +kernel
theorem dX8_where_25 : decode cX8_where 25 = .ok (.iload_n 3, 1) := by decide +kernel
theorem dX8_where_26 : decode cX8_where 26 = .ok (.i2l, 1) := by decide +kernel
theorem dX8_where_27 : decode cX8_where 27 = .ok (.lconst 0, 1) := by decide +kernel
theorem dX8_where_28 : decode cX8_where 28 = .ok (.ldc2_w 233, 3) := by decide +kernel
theorem dX8_where_31 : decode cX8_where 31 = .ok (.invokestatic 58, 3) := by decide +kernel
theorem dX8_where_34 : decode cX8_where 34 = .ok (.ifCond .ne 6, 3) := by decide +kernel
theorem dX8_where_37 : decode cX8_where 37 = .ok (.ldc 68, 2) := by decide +kernel
theorem dX8_where_39 : decode cX8_where 39 = .ok (.ireturn, 1) := by decide +kernel
theorem dX8_where_40 : decode cX8_where 40 = .ok (.iload_n 2, 1) := by decide +kernel
theorem dX8_where_41 : decode cX8_where 41 = .ok (.aload_n 0, 1) := by decide +kernel
theorem dX8_where_42 : decode cX8_where 42 = .ok (.iload_n 1, 1) := by decide +kernel
theorem dX8_where_43 : decode cX8_where 43 = .ok (.iconst 3, 1) := by decide +kernel
theorem dX8_where_44 : decode cX8_where 44 = .ok (.invokevirtual 181, 3) := by decide +kernel
theorem dX8_where_47 : decode cX8_where 47 = .ok (.isub, 1) := by decide +kernel
theorem dX8_where_48 : decode cX8_where 48 = .ok (.istore 4, 2) := by decide +kernel
theorem dX8_where_50 : decode cX8_where 50 = .ok (.aload_n 0, 1) := by decide +kernel
theorem dX8_where_51 : decode cX8_where 51 = .ok (.iload_n 1, 1) := by decide +kernel
theorem dX8_where_52 : decode cX8_where 52 = .ok (.iconst 4, 1) := by decide +kernel
theorem dX8_where_53 : decode cX8_where 53 = .ok (.invokevirtual 181, 3) := by decide +kernel
theorem dX8_where_56 : decode cX8_where 56 = .ok (.iload 4, 2) := by decide +kernel
theorem dX8_where_58 : decode cX8_where 58 = .ok (.iadd, 1) := by decide +kernel
theorem dX8_where_59 : decode cX8_where 59 = .ok (.iload_n 3, 1) := by decide +kernel
theorem dX8_where_60 : decode cX8_where 60 = .ok (.isub, 1) := by decide +kernel
theorem dX8_where_61 : decode cX8_where 61 = .ok (.istore 5, 2) := by decide +kernel
theorem dX8_where_63 : decode cX8_where 63 = .ok (.iload 4, 2) := by decide +kernel
theorem dX8_where_65 : decode cX8_where 65 = .ok (.i2l, 1) := by decide +kernel
theorem dX8_where_66 : decode cX8_where 66 = .ok (.lconst 0, 1) := by decide +kernel
theorem dX8_where_67 : decode cX8_where 67 = .ok (.ldc2_w 226, 3) := by decide +kernel
theorem dX8_where_70 : decode cX8_where 70 = .ok (.invokestatic 58, 3) := by decide +kernel
theorem dX8_where_73 : decode cX8_where 73 = .ok (.ifCond .eq 16, 3) := by decide +kernel
theorem dX8_where_76 : decode cX8_where 76 = .ok (.iload 5, 2) := by decide +kernel
theorem dX8_where_78 : decode cX8_where 78 = .ok (.i2l, 1) := by decide +kernel
theorem dX8_where_79 : decode cX8_where 79 = .ok (.lconst 0, 1) := by decide +kernel
theorem dX8_where_80 : decode cX8_where 80 = .ok (.ldc2_w 226, 3) := by decide +kernel
theorem dX8_where_83 : decode cX8_where 83 = .ok (.invokestatic 58, 3) := by decide +kernel
theorem dX8_where_86 : decode cX8_where 86 = .ok (.ifCond .ne 5, 3) := by decide +kernel
theorem dX8_where_89 : decode cX8_where 89 = .ok (.iconst 0, 1) := by decide +kernel
theorem dX8_where_90 : decode cX8_where 90 = .ok (.ireturn, 1) := by decide +kernel
theorem dX8_where_91 : decode cX8_where 91 = .ok (.aload_n 0, 1) := by decide +kernel
theorem dX8_where_92 : decode cX8_where 92 = .ok (.iload_n 1, 1) := by decide +kernel
theorem dX8_where_93 : decode cX8_where 93 = .ok (.invokevirtual 228, 3) := by decide +kernel
theorem dX8_where_96 : decode cX8_where 96 = .ok (.iconst 0, 1) := by decide +kernel
theorem dX8_where_97 : decode cX8_where 97 = .ok (.istore 6, 2) := by decide +kernel
theorem dX8_where_99 : decode cX8_where 99 = .ok (.iconst 0, 1) := by decide +kernel
theorem dX8_where_100 : decode cX8_where 100 = .ok (.istore 7, 2) := by decide +kernel
theorem dX8_where_102 : decode cX8_where 102 = .ok (.iload 7, 2) := by decide +kernel
theorem dX8_where_104 : decode cX8_where 104 = .ok (.aload_n 0, 1) := by decide +kernel
theorem dX8_where_105 : decode cX8_where 105 = .ok (.getfield 19, 3) := by decide +kernel
theorem dX8_where_108 : decode cX8_where 108 = .ok (.iconst 0, 1) := by decide +kernel
theorem dX8_where_109 : decode cX8_where 109 = .ok (.iaload, 1) := by decide +kernel
theorem dX8_where_110 : decode cX8_where 110 = .ok (.if_icmp .ge 44, 3) := by decide +kernel
theorem dX8_where_113 : decode cX8_where 113 = .ok (.iload 6, 2) := by decide +kernel
theorem dX8_where_115 : decode cX8_where 115 = .ok (.aload_n 0, 1) := by decide +kernel
theorem dX8_where_116 : decode cX8_where 116 = .ok (.getfield 31, 3) := by decide +kernel
theorem dX8_where_119 : decode cX8_where 119 = .ok (.iconst 5, 1) := by decide +kernel
theorem dX8_where_120 : decode cX8_where 120 = .ok (.iload 4, 2) := by decide +kernel
theorem dX8_where_122 : decode cX8_where 122 = .ok (.imul, 1) := by decide +kernel
theorem dX8_where_123 : decode cX8_where 123 = .ok (.iload 7, 2) := by decide +kernel
theorem dX8_where_125 : decode cX8_where 125 = .ok (.iadd, 1) := by decide +kernel
theorem dX8_where_126 : decode cX8_where 126 = .ok (.laload, 1) := by decide +kernel
theorem dX8_where_127 : decode cX8_where 127 = .ok (.iload 5, 2) := by decide +kernel
theorem dX8_where_129 : decode cX8_where 129 = .ok (.lshr, 1) := by decide +kernel
theorem dX8_where_130 : decode cX8_where 130 = .ok (.lconst 1, 1) := by decide +kernel
theorem dX8_where_131 : decode cX8_where 131 = .ok (.land, 1) := by decide +kernel
theorem dX8_where_132 : decode cX8_where 132 = .ok (.lconst 1, 1) := by decide +kernel
theorem dX8_where_133 : decode cX8_where 133 = .ok (.lcmp, 1) := by decide +kernel
theorem dX8_where_134 : decode cX8_where 134 = .ok (.ifCond .ne 10, 3) := by decide +kernel
theorem dX8_where_137 : decode cX8_where 137 = .ok (.iconst 1, 1) := by decide +kernel
theorem dX8_where_138 : decode cX8_where 138 = .ok (.iload 7, 2) := by decide +kernel
theorem dX8_where_140 : decode cX8_where 140 = .ok (.ishl, 1) := by decide +kernel
theorem dX8_where_141 : decode cX8_where 141 = .ok (.goto 4, 3) := by decide +kernel
theorem dX8_where_144 : decode cX8_where 144 = .ok (.iconst 0, 1) := by decide +kernel
theorem dX8_where_145 : decode cX8_where 145 = .ok (.ior, 1) := by decide +kernel
theorem dX8_where_146 : decode cX8_where 146 = .ok (.istore 6, 2) := by decide +kernel
theorem dX8_where_148 : decode cX8_where 148 = .ok (.iinc 7 1, 3) := by decide +kernel
theorem dX8_where_151 : decode cX8_where 151 = .ok (.goto (-49), 3) := by decide +kernel
theorem dX8_where_154 : decode cX8_where 154 = .ok (.iload 6, 2) := by decide +kernel
theorem dX8_where_156 : decode cX8_where 156 = .ok (.ireturn, 1) := by decide +kernel
theorem dX8_gone_0 : decode cX8_gone 0 = .ok (.aload_n 0, 1) := by decide +kernel
theorem dX8_gone_1 : decode cX8_gone 1 = .ok (.iconst 0, 1) := by decide +kernel
theorem dX8_gone_2 : decode cX8_gone 2 = .ok (.putfield 48, 3) := by decide +kernel
theorem dX8_gone_5 : decode cX8_gone 5 = .ok (.aload_n 0, 1) := by decide +kernel
theorem dX8_gone_6 : decode cX8_gone 6 = .ok (.iload_n 1, 1) := by decide +kernel
theorem dX8_gone_7 : decode cX8_gone 7 = .ok (.invokevirtual 199, 3) := by decide +kernel
theorem dX8_gone_10 : decode cX8_gone 10 = .ok (.ifCond .eq 19, 3) := by decide +kernel
theorem dX8_gone_13 : decode cX8_gone 13 = .ok (.aload_n 0, 1) := by decide +kernel
theorem dX8_gone_14 : decode cX8_gone 14 = .ok (.iload_n 1, 1) := by decide +kernel
theorem dX8_gone_15 : decode cX8_gone 15 = .ok (.iconst 0, 1) := by decide +kernel
theorem dX8_gone_16 : decode cX8_gone 16 = .ok (.invokevirtual 218, 3) := by decide +kernel
theorem dX8_gone_19 : decode cX8_gone 19 = .ok (.aload_n 0, 1) := by decide +kernel
theorem dX8_gone_20 : decode cX8_gone 20 = .ok (.iload_n 1, 1) := by decide +kernel
theorem dX8_gone_21 : decode cX8_gone 21 = .ok (.iconst 1, 1) := by decide +kernel
theorem dX8_gone_22 : decode cX8_gone 22 = .ok (.invokevirtual 218, 3) := by decide +kernel
theorem dX8_gone_25 : decode cX8_gone 25 = .ok (.isub, 1) := by decide +kernel
theorem dX8_gone_26 : decode cX8_gone 26 = .ok (.goto 5, 3) := by decide +kernel
theorem dX8_gone_29 : decode cX8_gone 29 = .ok (.ldc 68, 2) := by decide +kernel
theorem dX8_gone_31 : decode cX8_gone 31 = .ok (.ireturn, 1) := by decide +kernel
theorem dX8_eldest_0 : decode cX8_eldest 0 = .ok (.aload_n 0, 1) := by decide +kernel
theorem dX8_eldest_1 : decode cX8_eldest 1 = .ok (.iconst 0, 1) := by decide +kernel
theorem dX8_eldest_2 : decode cX8_eldest 2 = .ok (.putfield 48, 3) := by decide +kernel
theorem dX8_eldest_5 : decode cX8_eldest 5 = .ok (.aload_n 0, 1) := by decide +kernel
theorem dX8_eldest_6 : decode cX8_eldest 6 = .ok (.invokevirtual 235, 3) := by decide +kernel
theorem dX8_eldest_9 : decode cX8_eldest 9 = .ok (.ifCond .ne 6, 3) := by decide +kernel
theorem dX8_eldest_12 : decode cX8_eldest 12 = .ok (.ldc 188, 2) := by decide +kernel
theorem dX8_eldest_14 : decode cX8_eldest 14 = .ok (.ireturn, 1) := by decide +kernel
theorem dX8_eldest_15 : decode cX8_eldest 15 = .ok (.iload_n 1, 1) := by decide +kernel
theorem dX8_eldest_16 : decode cX8_eldest 16 = .ok (.i2l, 1) := by decide +kernel
theorem dX8_eldest_17 : decode cX8_eldest 17 = .ok (.lconst 0, 1) := by decide +kernel
theorem dX8_eldest_18 : decode cX8_eldest 18 = .ok (.lconst 1, 1) := by decide +kernel
theorem dX8_eldest_19 : decode cX8_eldest 19 = .ok (.invokestatic 58, 3) := by decide +kernel
theorem dX8_eldest_22 : decode cX8_eldest 22 = .ok (.ifCond .ne 6, 3) := by decide +kernel
theorem dX8_eldest_25 : decode cX8_eldest 25 = .ok (.ldc 68, 2) := by decide +kernel
theorem dX8_eldest_27 : decode cX8_eldest 27 = .ok (.ireturn, 1) := by decide +kernel
theorem dX8_eldest_28 : decode cX8_eldest 28 = .ok (.iload_n 1, 1) := by decide +kernel
theorem dX8_eldest_29 : decode cX8_eldest 29 = .ok (.ifCond .ne 7, 3) := by decide +kernel
theorem dX8_eldest_32 : decode cX8_eldest 32 = .ok (.iconst 4, 1) := by decide +kernel
theorem dX8_eldest_33 : decode cX8_eldest 33 = .ok (.goto 4, 3) := by decide +kernel
theorem dX8_eldest_36 : decode cX8_eldest 36 = .ok (.iconst 2, 1) := by decide +kernel
theorem dX8_eldest_37 : decode cX8_eldest 37 = .ok (.istore_n 2, 1) := by decide +kernel
theorem dX8_eldest_38 : decode cX8_eldest 38 = .ok (.ldc 84, 2) := by decide +kernel
theorem dX8_eldest_40 : decode cX8_eldest 40 = .ok (.istore_n 3, 1) := by decide +kernel
theorem dX8_eldest_41 : decode cX8_eldest 41 = .ok (.iconst 0, 1) := by decide +kernel
theorem dX8_eldest_42 : decode cX8_eldest 42 = .ok (.istore 4, 2) := by decide +kernel
theorem dX8_eldest_44 : decode cX8_eldest 44 = .ok (.iload 4, 2) := by decide +kernel
theorem dX8_eldest_46 : decode cX8_eldest 46 = .ok (.aload_n 0, 1) := by decide +kernel
theorem dX8_eldest_47 : decode cX8_eldest 47 = .ok (.getfield 19, 3) := by decide +kernel
theorem dX8_eldest_50 : decode cX8_eldest 50 = .ok (.iconst 3, 1) := by decide +kernel
theorem dX8_eldest_51 : decode cX8_eldest 51 = .ok (.iaload, 1) := by decide +kernel
theorem dX8_eldest_52 : decode cX8_eldest 52 = .ok (.if_icmp .ge 38, 3) := by decide +kernel
theorem dX8_eldest_55 : decode cX8_eldest 55 = .ok (.iload_n 3, 1) := by decide +kernel
theorem dX8_eldest_56 : decode cX8_eldest 56 = .ok (.ldc 84, 2) := by decide +kernel
theorem dX8_eldest_58 : decode cX8_eldest 58 = .ok (.if_icmp .eq 19, 3) := by decide +kernel
theorem dX8_eldest_61 : decode cX8_eldest 61 = .ok (.aload_n 0, 1) := by decide +kernel
theorem dX8_eldest_62 : decode cX8_eldest 62 = .ok (.iload 4, 2) := by decide +kernel
theorem dX8_eldest_64 : decode cX8_eldest 64 = .ok (.iload_n 2, 1) := by decide +kernel
theorem dX8_eldest_65 : decode cX8_eldest 65 = .ok (.invokevirtual 181, 3) := by decide +kernel
theorem dX8_eldest_68 : decode cX8_eldest 68 = .ok (.aload_n 0, 1) := by decide +kernel
theorem dX8_eldest_69 : decode cX8_eldest 69 = .ok (.iload_n 3, 1) := by decide +kernel
theorem dX8_eldest_70 : decode cX8_eldest 70 = .ok (.iload_n 2, 1) := by decide +kernel
theorem dX8_eldest_71 : decode cX8_eldest 71 = .ok (.invokevirtual 181, 3) := by decide +kernel
theorem dX8_eldest_74 : decode cX8_eldest 74 = .ok (.if_icmp .le 8, 3) := by decide +kernel
theorem dX8_eldest_77 : decode cX8_eldest 77 = .ok (.iload 4, 2) := by decide +kernel
theorem dX8_eldest_79 : decode cX8_eldest 79 = .ok (.goto 4, 3) := by decide +kernel
theorem dX8_eldest_82 : decode cX8_eldest 82 = .ok (.iload_n 3, 1) := by decide +kernel
theorem dX8_eldest_83 : decode cX8_eldest 83 = .ok (.istore_n 3, 1) := by decide +kernel
theorem dX8_eldest_84 : decode cX8_eldest 84 = .ok (.iinc 4 1, 3) := by decide +kernel
theorem dX8_eldest_87 : decode cX8_eldest 87 = .ok (.goto (-43), 3) := by decide +kernel
theorem dX8_eldest_90 : decode cX8_eldest 90 = .ok (.iload_n 3, 1) := by decide +kernel
theorem dX8_eldest_91 : decode cX8_eldest 91 = .ok (.ireturn, 1) := by decide +kernel
theorem dX8_image_0 : decode cX8_image 0 = .ok (.aload_n 0, 1) := by decide +kernel
theorem dX8_image_1 : decode cX8_image 1 = .ok (.iconst 0, 1) := by decide +kernel
theorem dX8_image_2 : decode cX8_image 2 = .ok (.putfield 48, 3) := by decide +kernel
theorem dX8_image_5 : decode cX8_image 5 = .ok (.iload_n 1, 1) := by decide +kernel
theorem dX8_image_6 : decode cX8_image 6 = .ok (.i2l, 1) := by decide +kernel
theorem dX8_image_7 : decode cX8_image 7 = .ok (.lconst 0, 1) := by decide +kernel
theorem dX8_image_8 : decode cX8_image 8 = .ok (.lconst 1, 1) := by decide +kernel
theorem dX8_image_9 : decode cX8_image 9 = .ok (.invokestatic 58, 3) := by decide +kernel
theorem dX8_image_12 : decode cX8_image 12 = .ok (.ifCond .ne 6, 3) := by decide +kernel
theorem dX8_image_15 : decode cX8_image 15 = .ok (.ldc 68, 2) := by decide +kernel
theorem dX8_image_17 : decode cX8_image 17 = .ok (.ireturn, 1) := by decide +kernel
theorem dX8_image_18 : decode cX8_image 18 = .ok (.aload_n 0, 1) := by decide +kernel
theorem dX8_image_19 : decode cX8_image 19 = .ok (.invokevirtual 235, 3) := by decide +kernel
theorem dX8_image_22 : decode cX8_image 22 = .ok (.ifCond .ne 6, 3) := by decide +kernel
theorem dX8_image_25 : decode cX8_image 25 = .ok (.ldc 188, 2) := by decide +kernel
theorem dX8_image_27 : decode cX8_image 27 = .ok (.ireturn, 1) := by decide +kernel
theorem dX8_image_28 : decode cX8_image 28 = .ok (.iconst 0, 1) := by decide +kernel
theorem dX8_image_29 : decode cX8_image 29 = .ok (.istore_n 2, 1) := by decide +kernel
theorem dX8_image_30 : decode cX8_image 30 = .ok (.iload_n 2, 1) := by decide +kernel
theorem dX8_image_31 : decode cX8_image 31 = .ok (.bipush 68, 2) := by decide +kernel
theorem dX8_image_33 : decode cX8_image 33 = .ok (.if_icmp .ge 26, 3) := by decide +kernel
theorem dX8_image_36 : decode cX8_image 36 = .ok (.aload_n 0, 1) := by decide +kernel
theorem dX8_image_37 : decode cX8_image 37 = .ok (.getfield 42, 3) := by decide +kernel
theorem dX8_image_40 : decode cX8_image 40 = .ok (.bipush 68, 2) := by decide +kernel
theorem dX8_image_42 : decode cX8_image 42 = .ok (.iload_n 1, 1) := by decide +kernel
theorem dX8_image_43 : decode cX8_image 43 = .ok (.imul, 1) := by decide +kernel
theorem dX8_image_44 : decode cX8_image 44 = .ok (.iload_n 2, 1) := by decide +kernel
theorem dX8_image_45 : decode cX8_image 45 = .ok (.iadd, 1) := by decide +kernel
theorem dX8_image_46 : decode cX8_image 46 = .ok (.aload_n 0, 1) := by decide +kernel
theorem dX8_image_47 : decode cX8_image 47 = .ok (.getfield 19, 3) := by decide +kernel
theorem dX8_image_50 : decode cX8_image 50 = .ok (.iload_n 2, 1) := by decide +kernel
theorem dX8_image_51 : decode cX8_image 51 = .ok (.iaload, 1) := by decide +kernel
theorem dX8_image_52 : decode cX8_image 52 = .ok (.iastore, 1) := by decide +kernel
theorem dX8_image_53 : decode cX8_image 53 = .ok (.iinc 2 1, 3) := by decide +kernel
theorem dX8_image_56 : decode cX8_image 56 = .ok (.goto (-26), 3) := by decide +kernel
theorem dX8_image_59 : decode cX8_image 59 = .ok (.aload_n 0, 1) := by decide +kernel
theorem dX8_image_60 : decode cX8_image 60 = .ok (.getfield 38, 3) := by decide +kernel
theorem dX8_image_63 : decode cX8_image 63 = .ok (.iload_n 1, 1) := by decide +kernel
theorem dX8_image_64 : decode cX8_image 64 = .ok (.iconst 1, 1) := by decide +kernel
theorem dX8_image_65 : decode cX8_image 65 = .ok (.bastore, 1) := by decide +kernel
theorem dX8_image_66 : decode cX8_image 66 = .ok (.iconst 1, 1) := by decide +kernel
theorem dX8_image_67 : decode cX8_image 67 = .ok (.ireturn, 1) := by decide +kernel
theorem dX8_restore_0 : decode cX8_restore 0 = .ok (.aload_n 0, 1) := by decide +kernel
theorem dX8_restore_1 : decode cX8_restore 1 = .ok (.iconst 0, 1) := by decide +kernel
theorem dX8_restore_2 : decode cX8_restore 2 = .ok (.putfield 48, 3) := by decide +kernel
theorem dX8_restore_5 : decode cX8_restore 5 = .ok (.iload_n 1, 1) := by decide +kernel
theorem dX8_restore_6 : decode cX8_restore 6 = .ok (.i2l, 1) := by decide +kernel
theorem dX8_restore_7 : decode cX8_restore 7 = .ok (.lconst 0, 1) := by decide +kernel
theorem dX8_restore_8 : decode cX8_restore 8 = .ok (.lconst 1, 1) := by decide +kernel
theorem dX8_restore_9 : decode cX8_restore 9 = .ok (.invokestatic 58, 3) := by decide +kernel
theorem dX8_restore_12 : decode cX8_restore 12 = .ok (.ifCond .ne 6, 3) := by decide +kernel
theorem dX8_restore_15 : decode cX8_restore 15 = .ok (.ldc 68, 2) := by decide +kernel
theorem dX8_restore_17 : decode cX8_restore 17 = .ok (.ireturn, 1) := by decide +kernel
theorem dX8_restore_18 : decode cX8_restore 18 = .ok (.aload_n 0, 1) := by decide +kernel
theorem dX8_restore_19 : decode cX8_restore 19 = .ok (.getfield 38, 3) := by decide +kernel
theorem dX8_restore_22 : decode cX8_restore 22 = .ok (.iload_n 1, 1) := by decide +kernel
theorem dX8_restore_23 : decode cX8_restore 23 = .ok (.baload, 1) := by decide +kernel
theorem dX8_restore_24 : decode cX8_restore 24 = .ok (.ifCond .ne 6, 3) := by decide +kernel
theorem dX8_restore_27 : decode cX8_restore 27 = .ok (.ldc 188, 2) := by decide +kernel
theorem dX8_restore_29 : decode cX8_restore 29 = .ok (.ireturn, 1) := by decide +kernel
theorem dX8_restore_30 : decode cX8_restore 30 = .ok (.iconst 0, 1) := by decide +kernel
theorem dX8_restore_31 : decode cX8_restore 31 = .ok (.istore_n 2, 1) := by decide +kernel
theorem dX8_restore_32 : decode cX8_restore 32 = .ok (.iload_n 2, 1) := by decide +kernel
theorem dX8_restore_33 : decode cX8_restore 33 = .ok (.bipush 68, 2) := by decide +kernel
theorem dX8_restore_35 : decode cX8_restore 35 = .ok (.if_icmp .ge 26, 3) := by decide +kernel
theorem dX8_restore_38 : decode cX8_restore 38 = .ok (.aload_n 0, 1) := by decide +kernel
theorem dX8_restore_39 : decode cX8_restore 39 = .ok (.getfield 19, 3) := by decide +kernel
theorem dX8_restore_42 : decode cX8_restore 42 = .ok (.iload_n 2, 1) := by decide +kernel
theorem dX8_restore_43 : decode cX8_restore 43 = .ok (.aload_n 0, 1) := by decide +kernel
theorem dX8_restore_44 : decode cX8_restore 44 = .ok (.getfield 42, 3) := by decide +kernel
theorem dX8_restore_47 : decode cX8_restore 47 = .ok (.bipush 68, 2) := by decide +kernel
theorem dX8_restore_49 : decode cX8_restore 49 = .ok (.iload_n 1, 1) := by decide +kernel
theorem dX8_restore_50 : decode cX8_restore 50 = .ok (.imul, 1) := by decide +kernel
theorem dX8_restore_51 : decode cX8_restore 51 = .ok (.iload_n 2, 1) := by decide +kernel
theorem dX8_restore_52 : decode cX8_restore 52 = .ok (.iadd, 1) := by decide +kernel
theorem dX8_restore_53 : decode cX8_restore 53 = .ok (.iaload, 1) := by decide +kernel
theorem dX8_restore_54 : decode cX8_restore 54 = .ok (.iastore, 1) := by decide +kernel
theorem dX8_restore_55 : decode cX8_restore 55 = .ok (.iinc 2 1, 3) := by decide +kernel
theorem dX8_restore_58 : decode cX8_restore 58 = .ok (.goto (-26), 3) := by decide +kernel
theorem dX8_restore_61 : decode cX8_restore 61 = .ok (.aload_n 0, 1) := by decide +kernel
theorem dX8_restore_62 : decode cX8_restore 62 = .ok (.iconst 0, 1) := by decide +kernel
theorem dX8_restore_63 : decode cX8_restore 63 = .ok (.putfield 175, 3) := by decide +kernel
theorem dX8_restore_66 : decode cX8_restore 66 = .ok (.iconst 1, 1) := by decide +kernel
theorem dX8_restore_67 : decode cX8_restore 67 = .ok (.ireturn, 1) := by decide +kernel
theorem dX8_isOf_0 : decode cX8_isOf 0 = .ok (.iload_n 1, 1) := by decide +kernel
theorem dX8_isOf_1 : decode cX8_isOf 1 = .ok (.ifCond .eq 28, 3) := by decide +kernel
theorem dX8_isOf_4 : decode cX8_isOf 4 = .ok (.iload_n 0, 1) := by decide +kernel
theorem dX8_isOf_5 : decode cX8_isOf 5 = .ok (.iload_n 1, 1) := by decide +kernel
theorem dX8_isOf_6 : decode cX8_isOf 6 = .ok (.if_icmp .eq 23, 3) := by decide +kernel
theorem dX8_isOf_9 : decode cX8_isOf 9 = .ok (.iload_n 1, 1) := by decide +kernel
theorem dX8_isOf_10 : decode cX8_isOf 10 = .ok (.iconst 1, 1) := by decide +kernel
theorem dX8_isOf_11 : decode cX8_isOf 11 = .ok (.if_icmp .ne 8, 3) := by decide +kernel
theorem dX8_isOf_14 : decode cX8_isOf 14 = .ok (.iload_n 0, 1) := by decide +kernel
theorem dX8_isOf_15 : decode cX8_isOf 15 = .ok (.iconst 4, 1) := by decide +kernel
theorem dX8_isOf_16 : decode cX8_isOf 16 = .ok (.if_icmp .lt 13, 3) := by decide +kernel
theorem dX8_isOf_19 : decode cX8_isOf 19 = .ok (.iload_n 1, 1) := by decide +kernel
theorem dX8_isOf_20 : decode cX8_isOf 20 = .ok (.iconst 4, 1) := by decide +kernel
theorem dX8_isOf_21 : decode cX8_isOf 21 = .ok (.if_icmp .ne 12, 3) := by decide +kernel
theorem dX8_isOf_24 : decode cX8_isOf 24 = .ok (.iload_n 0, 1) := by decide +kernel
theorem dX8_isOf_25 : decode cX8_isOf 25 = .ok (.iconst 5, 1) := by decide +kernel
theorem dX8_isOf_26 : decode cX8_isOf 26 = .ok (.if_icmp .ne 7, 3) := by decide +kernel
theorem dX8_isOf_29 : decode cX8_isOf 29 = .ok (.iconst 1, 1) := by decide +kernel
theorem dX8_isOf_30 : decode cX8_isOf 30 = .ok (.goto 4, 3) := by decide +kernel
theorem dX8_isOf_33 : decode cX8_isOf 33 = .ok (.iconst 0, 1) := by decide +kernel
theorem dX8_isOf_34 : decode cX8_isOf 34 = .ok (.ireturn, 1) := by decide +kernel
theorem dX8_kind_0 : decode cX8_kind 0 = .ok (.aload_n 0, 1) := by decide +kernel
theorem dX8_kind_1 : decode cX8_kind 1 = .ok (.iconst 0, 1) := by decide +kernel
theorem dX8_kind_2 : decode cX8_kind 2 = .ok (.putfield 48, 3) := by decide +kernel
theorem dX8_kind_5 : decode cX8_kind 5 = .ok (.aload_n 0, 1) := by decide +kernel
theorem dX8_kind_6 : decode cX8_kind 6 = .ok (.iload_n 1, 1) := by decide +kernel
theorem dX8_kind_7 : decode cX8_kind 7 = .ok (.invokevirtual 199, 3) := by decide +kernel
theorem dX8_kind_10 : decode cX8_kind 10 = .ok (.ifCond .eq 12, 3) := by decide +kernel
theorem dX8_kind_13 : decode cX8_kind 13 = .ok (.aload_n 0, 1) := by decide +kernel
theorem dX8_kind_14 : decode cX8_kind 14 = .ok (.iload_n 1, 1) := by decide +kernel
theorem dX8_kind_15 : decode cX8_kind 15 = .ok (.iconst 0, 1) := by decide +kernel
theorem dX8_kind_16 : decode cX8_kind 16 = .ok (.invokevirtual 181, 3) := by decide +kernel
theorem dX8_kind_19 : decode cX8_kind 19 = .ok (.goto 5, 3) := by decide +kernel
theorem dX8_kind_22 : decode cX8_kind 22 = .ok (.ldc 68, 2) := by decide +kernel
theorem dX8_kind_24 : decode cX8_kind 24 = .ok (.ireturn, 1) := by decide +kernel
theorem dX8_as_0 : decode cX8_as 0 = .ok (.aload_n 0, 1) := by decide +kernel
theorem dX8_as_1 : decode cX8_as 1 = .ok (.iconst 0, 1) := by decide +kernel
theorem dX8_as_2 : decode cX8_as 2 = .ok (.putfield 48, 3) := by decide +kernel
theorem dX8_as_5 : decode cX8_as 5 = .ok (.aload_n 0, 1) := by decide +kernel
theorem dX8_as_6 : decode cX8_as 6 = .ok (.iload_n 1, 1) := by decide +kernel
theorem dX8_as_7 : decode cX8_as 7 = .ok (.invokevirtual 199, 3) := by decide +kernel
theorem dX8_as_10 : decode cX8_as 10 = .ok (.ifCond .eq 15, 3) := by decide +kernel
theorem dX8_as_13 : decode cX8_as 13 = .ok (.iload_n 2, 1) := by decide +kernel
theorem dX8_as_14 : decode cX8_as 14 = .ok (.i2l, 1) := by decide +kernel
theorem dX8_as_15 : decode cX8_as 15 = .ok (.lconst 0, 1) := by decide +kernel
theorem dX8_as_16 : decode cX8_as 16 = .ok (.ldc2_w 221, 3) := by decide +kernel
theorem dX8_as_19 : decode cX8_as 19 = .ok (.invokestatic 58, 3) := by decide +kernel
theorem dX8_as_22 : decode cX8_as 22 = .ok (.ifCond .ne 6, 3) := by decide +kernel
theorem dX8_as_25 : decode cX8_as 25 = .ok (.ldc 68, 2) := by decide +kernel
theorem dX8_as_27 : decode cX8_as 27 = .ok (.ireturn, 1) := by decide +kernel
theorem dX8_as_28 : decode cX8_as 28 = .ok (.aload_n 0, 1) := by decide +kernel
theorem dX8_as_29 : decode cX8_as 29 = .ok (.iconst 0, 1) := by decide +kernel
theorem dX8_as_30 : decode cX8_as 30 = .ok (.putfield 52, 3) := by decide +kernel
theorem dX8_as_33 : decode cX8_as 33 = .ok (.aload_n 0, 1) := by decide +kernel
theorem dX8_as_34 : decode cX8_as 34 = .ok (.iload_n 1, 1) := by decide +kernel
theorem dX8_as_35 : decode cX8_as 35 = .ok (.iconst 0, 1) := by decide +kernel
theorem dX8_as_36 : decode cX8_as 36 = .ok (.invokevirtual 181, 3) := by decide +kernel
theorem dX8_as_39 : decode cX8_as 39 = .ok (.iload_n 2, 1) := by decide +kernel
theorem dX8_as_40 : decode cX8_as 40 = .ok (.invokestatic 239, 3) := by decide +kernel
theorem dX8_as_43 : decode cX8_as 43 = .ok (.ifCond .eq 7, 3) := by decide +kernel
theorem dX8_as_46 : decode cX8_as 46 = .ok (.iload_n 1, 1) := by decide +kernel
theorem dX8_as_47 : decode cX8_as 47 = .ok (.goto 8, 3) := by decide +kernel
theorem dX8_as_50 : decode cX8_as 50 = .ok (.aload_n 0, 1) := by decide +kernel
theorem dX8_as_51 : decode cX8_as 51 = .ok (.iconst 3, 1) := by decide +kernel
theorem dX8_as_52 : decode cX8_as 52 = .ok (.invokevirtual 69, 3) := by decide +kernel
theorem dX8_as_55 : decode cX8_as 55 = .ok (.ireturn, 1) := by decide +kernel
theorem dX8_began_0 : decode cX8_began 0 = .ok (.aload_n 0, 1) := by decide +kernel
theorem dX8_began_1 : decode cX8_began 1 = .ok (.getfield 243, 3) := by decide +kernel
theorem dX8_began_4 : decode cX8_began 4 = .ok (.bipush 16, 2) := by decide +kernel
theorem dX8_began_6 : decode cX8_began 6 = .ok (.if_icmp .ge 23, 3) := by decide +kernel
theorem dX8_began_9 : decode cX8_began 9 = .ok (.aload_n 0, 1) := by decide +kernel
theorem dX8_began_10 : decode cX8_began 10 = .ok (.getfield 45, 3) := by decide +kernel
theorem dX8_began_13 : decode cX8_began 13 = .ok (.aload_n 0, 1) := by decide +kernel
theorem dX8_began_14 : decode cX8_began 14 = .ok (.getfield 243, 3) := by decide +kernel
theorem dX8_began_17 : decode cX8_began 17 = .ok (.iload_n 1, 1) := by decide +kernel
theorem dX8_began_18 : decode cX8_began 18 = .ok (.iastore, 1) := by decide +kernel
theorem dX8_began_19 : decode cX8_began 19 = .ok (.aload_n 0, 1) := by decide +kernel
theorem dX8_began_20 : decode cX8_began 20 = .ok (.dup, 1) := by decide +kernel
theorem dX8_began_21 : decode cX8_began 21 = .ok (.getfield 243, 3) := by decide +kernel
theorem dX8_began_24 : decode cX8_began 24 = .ok (.iconst 1, 1) := by decide +kernel
theorem dX8_began_25 : decode cX8_began 25 = .ok (.iadd, 1) := by decide +kernel
theorem dX8_began_26 : decode cX8_began 26 = .ok (.putfield 243, 3) := by decide +kernel
theorem dX8_began_29 : decode cX8_began 29 = .ok (.return_, 1) := by decide +kernel
theorem dX8_plainSize_0 : decode cX8_plainSize 0 = .ok (.aload_n 0, 1) := by decide +kernel
theorem dX8_plainSize_1 : decode cX8_plainSize 1 = .ok (.bipush 10, 2) := by decide +kernel
theorem dX8_plainSize_3 : decode cX8_plainSize 3 = .ok (.invokevirtual 246, 3) := by decide +kernel
theorem dX8_plainSize_6 : decode cX8_plainSize 6 = .ok (.aload_n 0, 1) := by decide +kernel
theorem dX8_plainSize_7 : decode cX8_plainSize 7 = .ok (.iload_n 1, 1) := by decide +kernel
theorem dX8_plainSize_8 : decode cX8_plainSize 8 = .ok (.iconst 4, 1) := by decide +kernel
theorem dX8_plainSize_9 : decode cX8_plainSize 9 = .ok (.invokevirtual 181, 3) := by decide +kernel
theorem dX8_plainSize_12 : decode cX8_plainSize 12 = .ok (.ireturn, 1) := by decide +kernel
theorem dX8_clerkSize_0 : decode cX8_clerkSize 0 = .ok (.aload_n 0, 1) := by decide +kernel
theorem dX8_clerkSize_1 : decode cX8_clerkSize 1 = .ok (.iload_n 1, 1) := by decide +kernel
theorem dX8_clerkSize_2 : decode cX8_clerkSize 2 = .ok (.iconst 0, 1) := by decide +kernel
theorem dX8_clerkSize_3 : decode cX8_clerkSize 3 = .ok (.invokevirtual 181, 3) := by decide +kernel
theorem dX8_clerkSize_6 : decode cX8_clerkSize 6 = .ok (.iconst 5, 1) := by decide +kernel
theorem dX8_clerkSize_7 : decode cX8_clerkSize 7 = .ok (.if_icmp .ne 9, 3) := by decide +kernel
theorem dX8_clerkSize_10 : decode cX8_clerkSize 10 = .ok (.aload_n 0, 1) := by decide +kernel
theorem dX8_clerkSize_11 : decode cX8_clerkSize 11 = .ok (.bipush 14, 2) := by decide +kernel
theorem dX8_clerkSize_13 : decode cX8_clerkSize 13 = .ok (.invokevirtual 246, 3) := by decide +kernel
theorem dX8_clerkSize_16 : decode cX8_clerkSize 16 = .ok (.aload_n 0, 1) := by decide +kernel
theorem dX8_clerkSize_17 : decode cX8_clerkSize 17 = .ok (.bipush 13, 2) := by decide +kernel
theorem dX8_clerkSize_19 : decode cX8_clerkSize 19 = .ok (.invokevirtual 246, 3) := by decide +kernel
theorem dX8_clerkSize_22 : decode cX8_clerkSize 22 = .ok (.aload_n 0, 1) := by decide +kernel
theorem dX8_clerkSize_23 : decode cX8_clerkSize 23 = .ok (.iload_n 1, 1) := by decide +kernel
theorem dX8_clerkSize_24 : decode cX8_clerkSize 24 = .ok (.invokevirtual 249, 3) := by decide +kernel
theorem dX8_clerkSize_27 : decode cX8_clerkSize 27 = .ok (.bipush 100, 2) := by decide +kernel
theorem dX8_clerkSize_29 : decode cX8_clerkSize 29 = .ok (.isub, 1) := by decide +kernel
theorem dX8_clerkSize_30 : decode cX8_clerkSize 30 = .ok (.istore_n 2, 1) := by decide +kernel
theorem dX8_clerkSize_31 : decode cX8_clerkSize 31 = .ok (.aload_n 0, 1) := by decide +kernel
theorem dX8_clerkSize_32 : decode cX8_clerkSize 32 = .ok (.iload_n 1, 1) := by decide +kernel
theorem dX8_clerkSize_33 : decode cX8_clerkSize 33 = .ok (.iconst 0, 1) := by decide +kernel
theorem dX8_clerkSize_34 : decode cX8_clerkSize 34 = .ok (.invokevirtual 181, 3) := by decide +kernel
theorem dX8_clerkSize_37 : decode cX8_clerkSize 37 = .ok (.iconst 5, 1) := by decide +kernel
theorem dX8_clerkSize_38 : decode cX8_clerkSize 38 = .ok (.if_icmp .ne 9, 3) := by decide +kernel
theorem dX8_clerkSize_41 : decode cX8_clerkSize 41 = .ok (.iconst 2, 1) := by decide +kernel
theorem dX8_clerkSize_42 : decode cX8_clerkSize 42 = .ok (.iload_n 2, 1) := by decide +kernel
theorem dX8_clerkSize_43 : decode cX8_clerkSize 43 = .ok (.imul, 1) := by decide +kernel
theorem dX8_clerkSize_44 : decode cX8_clerkSize 44 = .ok (.goto 4, 3) := by decide +kernel
theorem dX8_clerkSize_47 : decode cX8_clerkSize 47 = .ok (.iload_n 2, 1) := by decide +kernel
theorem dX8_clerkSize_48 : decode cX8_clerkSize 48 = .ok (.ireturn, 1) := by decide +kernel
theorem dX8_markOf_0 : decode cX8_markOf 0 = .ok (.aload_n 0, 1) := by decide +kernel
theorem dX8_markOf_1 : decode cX8_markOf 1 = .ok (.iload_n 1, 1) := by decide +kernel
theorem dX8_markOf_2 : decode cX8_markOf 2 = .ok (.iconst 0, 1) := by decide +kernel
theorem dX8_markOf_3 : decode cX8_markOf 3 = .ok (.invokevirtual 181, 3) := by decide +kernel
theorem dX8_markOf_6 : decode cX8_markOf 6 = .ok (.istore_n 2, 1) := by decide +kernel
theorem dX8_markOf_7 : decode cX8_markOf 7 = .ok (.iload_n 2, 1) := by decide +kernel
theorem dX8_markOf_8 : decode cX8_markOf 8 = .ok (.iconst 4, 1) := by decide +kernel
theorem dX8_markOf_9 : decode cX8_markOf 9 = .ok (.if_icmp .lt 23, 3) := by decide +kernel
theorem dX8_markOf_12 : decode cX8_markOf 12 = .ok (.aload_n 0, 1) := by decide +kernel
theorem dX8_markOf_13 : decode cX8_markOf 13 = .ok (.bipush 23, 2) := by decide +kernel
theorem dX8_markOf_15 : decode cX8_markOf 15 = .ok (.invokevirtual 246, 3) := by decide +kernel
theorem dX8_markOf_18 : decode cX8_markOf 18 = .ok (.aload_n 0, 1) := by decide +kernel
theorem dX8_markOf_19 : decode cX8_markOf 19 = .ok (.bipush 20, 2) := by decide +kernel
theorem dX8_markOf_21 : decode cX8_markOf 21 = .ok (.invokevirtual 246, 3) := by decide +kernel
theorem dX8_markOf_24 : decode cX8_markOf 24 = .ok (.iload_n 1, 1) := by decide +kernel
theorem dX8_markOf_25 : decode cX8_markOf 25 = .ok (.aload_n 0, 1) := by decide +kernel
theorem dX8_markOf_26 : decode cX8_markOf 26 = .ok (.iload_n 1, 1) := by decide +kernel
theorem dX8_markOf_27 : decode cX8_markOf 27 = .ok (.invokevirtual 252, 3) := by decide +kernel
theorem dX8_markOf_30 : decode cX8_markOf 30 = .ok (.isub, 1) := by decide +kernel
theorem dX8_markOf_31 : decode cX8_markOf 31 = .ok (.ireturn, 1) := by decide +kernel
theorem dX8_markOf_32 : decode cX8_markOf 32 = .ok (.iload_n 2, 1) := by decide +kernel
theorem dX8_markOf_33 : decode cX8_markOf 33 = .ok (.iconst 1, 1) := by decide +kernel
theorem dX8_markOf_34 : decode cX8_markOf 34 = .ok (.if_icmp .eq 19, 3) := by decide +kernel
theorem dX8_markOf_37 : decode cX8_markOf 37 = .ok (.aload_n 0, 1) := by decide +kernel
theorem dX8_markOf_38 : decode cX8_markOf 38 = .ok (.iload_n 2, 1) := by decide +kernel
theorem dX8_markOf_39 : decode cX8_markOf 39 = .ok (.iconst 3, 1) := by decide +kernel
theorem dX8_markOf_40 : decode cX8_markOf 40 = .ok (.if_icmp .ne 8, 3) := by decide +kernel
theorem dX8_markOf_43 : decode cX8_markOf 43 = .ok (.bipush 22, 2) := by decide +kernel
theorem dX8_markOf_45 : decode cX8_markOf 45 = .ok (.goto 5, 3) := by decide +kernel
theorem dX8_markOf_48 : decode cX8_markOf 48 = .ok (.bipush 24, 2) := by decide +kernel
theorem dX8_markOf_50 : decode cX8_markOf 50 = .ok (.invokevirtual 246, 3) := by decide +kernel
theorem dX8_markOf_53 : decode cX8_markOf 53 = .ok (.aload_n 0, 1) := by decide +kernel
theorem dX8_markOf_54 : decode cX8_markOf 54 = .ok (.bipush 21, 2) := by decide +kernel
theorem dX8_markOf_56 : decode cX8_markOf 56 = .ok (.invokevirtual 246, 3) := by decide +kernel
theorem dX8_markOf_59 : decode cX8_markOf 59 = .ok (.aload_n 0, 1) := by decide +kernel
theorem dX8_markOf_60 : decode cX8_markOf 60 = .ok (.bipush 20, 2) := by decide +kernel
theorem dX8_markOf_62 : decode cX8_markOf 62 = .ok (.invokevirtual 246, 3) := by decide +kernel
theorem dX8_markOf_65 : decode cX8_markOf 65 = .ok (.iload_n 1, 1) := by decide +kernel
theorem dX8_markOf_66 : decode cX8_markOf 66 = .ok (.aload_n 0, 1) := by decide +kernel
theorem dX8_markOf_67 : decode cX8_markOf 67 = .ok (.iload_n 1, 1) := by decide +kernel
theorem dX8_markOf_68 : decode cX8_markOf 68 = .ok (.iconst 1, 1) := by decide +kernel
theorem dX8_markOf_69 : decode cX8_markOf 69 = .ok (.invokevirtual 181, 3) := by decide +kernel
theorem dX8_markOf_72 : decode cX8_markOf 72 = .ok (.iadd, 1) := by decide +kernel
theorem dX8_markOf_73 : decode cX8_markOf 73 = .ok (.istore_n 3, 1) := by decide +kernel
theorem dX8_markOf_74 : decode cX8_markOf 74 = .ok (.iload_n 2, 1) := by decide +kernel
theorem dX8_markOf_75 : decode cX8_markOf 75 = .ok (.iconst 1, 1) := by decide +kernel
theorem dX8_markOf_76 : decode cX8_markOf 76 = .ok (.if_icmp .ne 7, 3) := by decide +kernel
theorem dX8_markOf_79 : decode cX8_markOf 79 = .ok (.iload_n 3, 1) := by decide +kernel
theorem dX8_markOf_80 : decode cX8_markOf 80 = .ok (.goto 19, 3) := by decide +kernel
theorem dX8_markOf_83 : decode cX8_markOf 83 = .ok (.iload_n 2, 1) := by decide +kernel
theorem dX8_markOf_84 : decode cX8_markOf 84 = .ok (.iconst 3, 1) := by decide +kernel
theorem dX8_markOf_85 : decode cX8_markOf 85 = .ok (.if_icmp .ne 11, 3) := by decide +kernel
theorem dX8_markOf_88 : decode cX8_markOf 88 = .ok (.iload_n 3, 1) := by decide +kernel
theorem dX8_markOf_89 : decode cX8_markOf 89 = .ok (.sipush 1000, 3) := by decide +kernel
theorem dX8_markOf_92 : decode cX8_markOf 92 = .ok (.isub, 1) := by decide +kernel
theorem dX8_markOf_93 : decode cX8_markOf 93 = .ok (.goto 6, 3) := by decide +kernel
theorem dX8_markOf_96 : decode cX8_markOf 96 = .ok (.iconst 2, 1) := by decide +kernel
theorem dX8_markOf_97 : decode cX8_markOf 97 = .ok (.iload_n 3, 1) := by decide +kernel
theorem dX8_markOf_98 : decode cX8_markOf 98 = .ok (.imul, 1) := by decide +kernel
theorem dX8_markOf_99 : decode cX8_markOf 99 = .ok (.ireturn, 1) := by decide +kernel
theorem dX8_sizeOf_0 : decode cX8_sizeOf 0 = .ok (.aload_n 0, 1) := by decide +kernel
theorem dX8_sizeOf_1 : decode cX8_sizeOf 1 = .ok (.iload_n 1, 1) := by decide +kernel
theorem dX8_sizeOf_2 : decode cX8_sizeOf 2 = .ok (.iconst 0, 1) := by decide +kernel
theorem dX8_sizeOf_3 : decode cX8_sizeOf 3 = .ok (.invokevirtual 181, 3) := by decide +kernel
theorem dX8_sizeOf_6 : decode cX8_sizeOf 6 = .ok (.istore_n 2, 1) := by decide +kernel
theorem dX8_sizeOf_7 : decode cX8_sizeOf 7 = .ok (.iload_n 2, 1) := by decide +kernel
theorem dX8_sizeOf_8 : decode cX8_sizeOf 8 = .ok (.iconst 4, 1) := by decide +kernel
theorem dX8_sizeOf_9 : decode cX8_sizeOf 9 = .ok (.if_icmp .lt 9, 3) := by decide +kernel
theorem dX8_sizeOf_12 : decode cX8_sizeOf 12 = .ok (.aload_n 0, 1) := by decide +kernel
theorem dX8_sizeOf_13 : decode cX8_sizeOf 13 = .ok (.iload_n 1, 1) := by decide +kernel
theorem dX8_sizeOf_14 : decode cX8_sizeOf 14 = .ok (.invokevirtual 252, 3) := by decide +kernel
theorem dX8_sizeOf_17 : decode cX8_sizeOf 17 = .ok (.ireturn, 1) := by decide +kernel
theorem dX8_sizeOf_18 : decode cX8_sizeOf 18 = .ok (.iload_n 2, 1) := by decide +kernel
theorem dX8_sizeOf_19 : decode cX8_sizeOf 19 = .ok (.iconst 2, 1) := by decide +kernel
theorem dX8_sizeOf_20 : decode cX8_sizeOf 20 = .ok (.if_icmp .ne 9, 3) := by decide +kernel
theorem dX8_sizeOf_23 : decode cX8_sizeOf 23 = .ok (.aload_n 0, 1) := by decide +kernel
theorem dX8_sizeOf_24 : decode cX8_sizeOf 24 = .ok (.bipush 12, 2) := by decide +kernel
theorem dX8_sizeOf_26 : decode cX8_sizeOf 26 = .ok (.invokevirtual 246, 3) := by decide +kernel
theorem dX8_sizeOf_29 : decode cX8_sizeOf 29 = .ok (.aload_n 0, 1) := by decide +kernel
theorem dX8_sizeOf_30 : decode cX8_sizeOf 30 = .ok (.bipush 11, 2) := by decide +kernel
theorem dX8_sizeOf_32 : decode cX8_sizeOf 32 = .ok (.invokevirtual 246, 3) := by decide +kernel
theorem dX8_sizeOf_35 : decode cX8_sizeOf 35 = .ok (.aload_n 0, 1) := by decide +kernel
theorem dX8_sizeOf_36 : decode cX8_sizeOf 36 = .ok (.iload_n 1, 1) := by decide +kernel
theorem dX8_sizeOf_37 : decode cX8_sizeOf 37 = .ok (.invokevirtual 249, 3) := by decide +kernel
theorem dX8_sizeOf_40 : decode cX8_sizeOf 40 = .ok (.istore_n 3, 1) := by decide +kernel
theorem dX8_sizeOf_41 : decode cX8_sizeOf 41 = .ok (.iload_n 3, 1) := by decide +kernel
theorem dX8_sizeOf_42 : decode cX8_sizeOf 42 = .ok (.aload_n 0, 1) := by decide +kernel
theorem dX8_sizeOf_43 : decode cX8_sizeOf 43 = .ok (.iload_n 1, 1) := by decide +kernel
theorem dX8_sizeOf_44 : decode cX8_sizeOf 44 = .ok (.invokevirtual 255, 3) := by decide +kernel
theorem dX8_sizeOf_47 : decode cX8_sizeOf 47 = .ok (.iadd, 1) := by decide +kernel
theorem dX8_sizeOf_48 : decode cX8_sizeOf 48 = .ok (.istore_n 3, 1) := by decide +kernel
theorem dX8_sizeOf_49 : decode cX8_sizeOf 49 = .ok (.iload_n 2, 1) := by decide +kernel
theorem dX8_sizeOf_50 : decode cX8_sizeOf 50 = .ok (.iconst 2, 1) := by decide +kernel
theorem dX8_sizeOf_51 : decode cX8_sizeOf 51 = .ok (.if_icmp .ne 8, 3) := by decide +kernel
theorem dX8_sizeOf_54 : decode cX8_sizeOf 54 = .ok (.iload_n 3, 1) := by decide +kernel
theorem dX8_sizeOf_55 : decode cX8_sizeOf 55 = .ok (.ineg, 1) := by decide +kernel
theorem dX8_sizeOf_56 : decode cX8_sizeOf 56 = .ok (.goto 4, 3) := by decide +kernel
theorem dX8_sizeOf_59 : decode cX8_sizeOf 59 = .ok (.iload_n 3, 1) := by decide +kernel
theorem dX8_sizeOf_60 : decode cX8_sizeOf 60 = .ok (.ireturn, 1) := by decide +kernel
theorem dX8_ask_0 : decode cX8_ask 0 = .ok (.aload_n 0, 1) := by decide +kernel
theorem dX8_ask_1 : decode cX8_ask 1 = .ok (.iconst 0, 1) := by decide +kernel
theorem dX8_ask_2 : decode cX8_ask 2 = .ok (.putfield 48, 3) := by decide +kernel
theorem dX8_ask_5 : decode cX8_ask 5 = .ok (.aload_n 0, 1) := by decide +kernel
theorem dX8_ask_6 : decode cX8_ask 6 = .ok (.iload_n 1, 1) := by decide +kernel
theorem dX8_ask_7 : decode cX8_ask 7 = .ok (.invokevirtual 199, 3) := by decide +kernel
theorem dX8_ask_10 : decode cX8_ask 10 = .ok (.ifCond .eq 13, 3) := by decide +kernel
theorem dX8_ask_13 : decode cX8_ask 13 = .ok (.iload_n 2, 1) := by decide +kernel
theorem dX8_ask_14 : decode cX8_ask 14 = .ok (.i2l, 1) := by decide +kernel
theorem dX8_ask_15 : decode cX8_ask 15 = .ok (.lconst 0, 1) := by decide +kernel
theorem dX8_ask_16 : decode cX8_ask 16 = .ok (.lconst 1, 1) := by decide +kernel
theorem dX8_ask_17 : decode cX8_ask 17 = .ok (.invokestatic 58, 3) := by decide +kernel
theorem dX8_ask_20 : decode cX8_ask 20 = .ok (.ifCond .ne 6, 3) := by decide +kernel
theorem dX8_ask_23 : decode cX8_ask 23 = .ok (.ldc 68, 2) := by decide +kernel
theorem dX8_ask_25 : decode cX8_ask 25 = .ok (.ireturn, 1) := by decide +kernel
theorem dX8_ask_26 : decode cX8_ask 26 = .ok (.aload_n 0, 1) := by decide +kernel
theorem dX8_ask_27 : decode cX8_ask 27 = .ok (.iconst 0, 1) := by decide +kernel
theorem dX8_ask_28 : decode cX8_ask 28 = .ok (.putfield 243, 3) := by decide +kernel
theorem dX8_ask_31 : decode cX8_ask 31 = .ok (.iload_n 2, 1) := by decide +kernel
theorem dX8_ask_32 : decode cX8_ask 32 = .ok (.ifCond .ne 11, 3) := by decide +kernel
theorem dX8_ask_35 : decode cX8_ask 35 = .ok (.aload_n 0, 1) := by decide +kernel
theorem dX8_ask_36 : decode cX8_ask 36 = .ok (.iload_n 1, 1) := by decide +kernel
theorem dX8_ask_37 : decode cX8_ask 37 = .ok (.invokevirtual 258, 3) := by decide +kernel
theorem dX8_ask_40 : decode cX8_ask 40 = .ok (.goto 8, 3) := by decide +kernel
theorem dX8_ask_43 : decode cX8_ask 43 = .ok (.aload_n 0, 1) := by decide +kernel
theorem dX8_ask_44 : decode cX8_ask 44 = .ok (.iload_n 1, 1) := by decide +kernel
theorem dX8_ask_45 : decode cX8_ask 45 = .ok (.invokevirtual 255, 3) := by decide +kernel
theorem dX8_ask_48 : decode cX8_ask 48 = .ok (.ireturn, 1) := by decide +kernel
theorem dX8_trace_0 : decode cX8_trace 0 = .ok (.aload_n 0, 1) := by decide +kernel
theorem dX8_trace_1 : decode cX8_trace 1 = .ok (.iconst 0, 1) := by decide +kernel
theorem dX8_trace_2 : decode cX8_trace 2 = .ok (.putfield 48, 3) := by decide +kernel
theorem dX8_trace_5 : decode cX8_trace 5 = .ok (.iload_n 1, 1) := by decide +kernel
theorem dX8_trace_6 : decode cX8_trace 6 = .ok (.i2l, 1) := by decide +kernel
theorem dX8_trace_7 : decode cX8_trace 7 = .ok (.lconst 0, 1) := by decide +kernel
theorem dX8_trace_8 : decode cX8_trace 8 = .ok (.aload_n 0, 1) := by decide +kernel
theorem dX8_trace_9 : decode cX8_trace 9 = .ok (.getfield 243, 3) := by decide +kernel
theorem dX8_trace_12 : decode cX8_trace 12 = .ok (.iconst 1, 1) := by decide +kernel
theorem dX8_trace_13 : decode cX8_trace 13 = .ok (.isub, 1) := by decide +kernel
theorem dX8_trace_14 : decode cX8_trace 14 = .ok (.i2l, 1) := by decide +kernel
theorem dX8_trace_15 : decode cX8_trace 15 = .ok (.invokestatic 58, 3) := by decide +kernel
theorem dX8_trace_18 : decode cX8_trace 18 = .ok (.ifCond .eq 12, 3) := by decide +kernel
theorem dX8_trace_21 : decode cX8_trace 21 = .ok (.aload_n 0, 1) := by decide +kernel
theorem dX8_trace_22 : decode cX8_trace 22 = .ok (.getfield 45, 3) := by decide +kernel
theorem dX8_trace_25 : decode cX8_trace 25 = .ok (.iload_n 1, 1) := by decide +kernel
theorem dX8_trace_26 : decode cX8_trace 26 = .ok (.iaload, 1) := by decide +kernel
theorem dX8_trace_27 : decode cX8_trace 27 = .ok (.goto 5, 3) := by decide +kernel
theorem dX8_trace_30 : decode cX8_trace 30 = .ok (.ldc 84, 2) := by decide +kernel
theorem dX8_trace_32 : decode cX8_trace 32 = .ok (.ireturn, 1) := by decide +kernel
theorem dX8_count_0 : decode cX8_count 0 = .ok (.aload_n 0, 1) := by decide +kernel
theorem dX8_count_1 : decode cX8_count 1 = .ok (.iconst 0, 1) := by decide +kernel
theorem dX8_count_2 : decode cX8_count 2 = .ok (.putfield 48, 3) := by decide +kernel
theorem dX8_count_5 : decode cX8_count 5 = .ok (.iconst 0, 1) := by decide +kernel
theorem dX8_count_6 : decode cX8_count 6 = .ok (.istore_n 2, 1) := by decide +kernel
theorem dX8_count_7 : decode cX8_count 7 = .ok (.iload_n 1, 1) := by decide +kernel
theorem dX8_count_8 : decode cX8_count 8 = .ok (.tableswitch 115 0 6 #[44, 77, 84, 91, 98, 103, 110], 44) := by decide +kernel
theorem dX8_count_52 : decode cX8_count 52 = .ok (.iconst 0, 1) := by decide +kernel
theorem dX8_count_53 : decode cX8_count 53 = .ok (.istore_n 3, 1) := by decide +kernel
theorem dX8_count_54 : decode cX8_count 54 = .ok (.iload_n 3, 1) := by decide +kernel
theorem dX8_count_55 : decode cX8_count 55 = .ok (.bipush 8, 2) := by decide +kernel
theorem dX8_count_57 : decode cX8_count 57 = .ok (.if_icmp .ge 26, 3) := by decide +kernel
theorem dX8_count_60 : decode cX8_count 60 = .ok (.iload_n 2, 1) := by decide +kernel
theorem dX8_count_61 : decode cX8_count 61 = .ok (.aload_n 0, 1) := by decide +kernel
theorem dX8_count_62 : decode cX8_count 62 = .ok (.getfield 7, 3) := by decide +kernel
theorem dX8_count_65 : decode cX8_count 65 = .ok (.iload_n 3, 1) := by decide +kernel
theorem dX8_count_66 : decode cX8_count 66 = .ok (.iaload, 1) := by decide +kernel
theorem dX8_count_67 : decode cX8_count 67 = .ok (.ifCond .lt 7, 3) := by decide +kernel
theorem dX8_count_70 : decode cX8_count 70 = .ok (.iconst 1, 1) := by decide +kernel
theorem dX8_count_71 : decode cX8_count 71 = .ok (.goto 4, 3) := by decide +kernel
theorem dX8_count_74 : decode cX8_count 74 = .ok (.iconst 0, 1) := by decide +kernel
theorem dX8_count_75 : decode cX8_count 75 = .ok (.iadd, 1) := by decide +kernel
theorem dX8_count_76 : decode cX8_count 76 = .ok (.istore_n 2, 1) := by decide +kernel
theorem dX8_count_77 : decode cX8_count 77 = .ok (.iinc 3 1, 3) := by decide +kernel
theorem dX8_count_80 : decode cX8_count 80 = .ok (.goto (-26), 3) := by decide +kernel
theorem dX8_count_83 : decode cX8_count 83 = .ok (.iload_n 2, 1) := by decide +kernel
theorem dX8_count_84 : decode cX8_count 84 = .ok (.ireturn, 1) := by decide +kernel
theorem dX8_count_85 : decode cX8_count 85 = .ok (.aload_n 0, 1) := by decide +kernel
theorem dX8_count_86 : decode cX8_count 86 = .ok (.getfield 19, 3) := by decide +kernel
theorem dX8_count_89 : decode cX8_count 89 = .ok (.iconst 3, 1) := by decide +kernel
theorem dX8_count_90 : decode cX8_count 90 = .ok (.iaload, 1) := by decide +kernel
theorem dX8_count_91 : decode cX8_count 91 = .ok (.ireturn, 1) := by decide +kernel
theorem dX8_count_92 : decode cX8_count 92 = .ok (.aload_n 0, 1) := by decide +kernel
theorem dX8_count_93 : decode cX8_count 93 = .ok (.getfield 19, 3) := by decide +kernel
theorem dX8_count_96 : decode cX8_count 96 = .ok (.iconst 2, 1) := by decide +kernel
theorem dX8_count_97 : decode cX8_count 97 = .ok (.iaload, 1) := by decide +kernel
theorem dX8_count_98 : decode cX8_count 98 = .ok (.ireturn, 1) := by decide +kernel
theorem dX8_count_99 : decode cX8_count 99 = .ok (.aload_n 0, 1) := by decide +kernel
theorem dX8_count_100 : decode cX8_count 100 = .ok (.getfield 19, 3) := by decide +kernel
theorem dX8_count_103 : decode cX8_count 103 = .ok (.iconst 0, 1) := by decide +kernel
theorem dX8_count_104 : decode cX8_count 104 = .ok (.iaload, 1) := by decide +kernel
theorem dX8_count_105 : decode cX8_count 105 = .ok (.ireturn, 1) := by decide +kernel
theorem dX8_count_106 : decode cX8_count 106 = .ok (.aload_n 0, 1) := by decide +kernel
theorem dX8_count_107 : decode cX8_count 107 = .ok (.getfield 175, 3) := by decide +kernel
theorem dX8_count_110 : decode cX8_count 110 = .ok (.ireturn, 1) := by decide +kernel
theorem dX8_count_111 : decode cX8_count 111 = .ok (.aload_n 0, 1) := by decide +kernel
theorem dX8_count_112 : decode cX8_count 112 = .ok (.getfield 19, 3) := by decide +kernel
theorem dX8_count_115 : decode cX8_count 115 = .ok (.iconst 1, 1) := by decide +kernel
theorem dX8_count_116 : decode cX8_count 116 = .ok (.iaload, 1) := by decide +kernel
theorem dX8_count_117 : decode cX8_count 117 = .ok (.ireturn, 1) := by decide +kernel
theorem dX8_count_118 : decode cX8_count 118 = .ok (.aload_n 0, 1) := by decide +kernel
theorem dX8_count_119 : decode cX8_count 119 = .ok (.getfield 75, 3) := by decide +kernel
theorem dX8_count_122 : decode cX8_count 122 = .ok (.ireturn, 1) := by decide +kernel
theorem dX8_count_123 : decode cX8_count 123 = .ok (.ldc 68, 2) := by decide +kernel
theorem dX8_count_125 : decode cX8_count 125 = .ok (.ireturn, 1) := by decide +kernel
theorem dX8_status_0 : decode cX8_status 0 = .ok (.aload_n 0, 1) := by decide +kernel
theorem dX8_status_1 : decode cX8_status 1 = .ok (.iconst 0, 1) := by decide +kernel
theorem dX8_status_2 : decode cX8_status 2 = .ok (.putfield 48, 3) := by decide +kernel
theorem dX8_status_5 : decode cX8_status 5 = .ok (.aload_n 0, 1) := by decide +kernel
theorem dX8_status_6 : decode cX8_status 6 = .ok (.getfield 52, 3) := by decide +kernel
theorem dX8_status_9 : decode cX8_status 9 = .ok (.ireturn, 1) := by decide +kernel
theorem dJ6_numberOfLeadingZeros_0f7a4_0 : decode cJ6_numberOfLeadingZeros_0f7a4 0 = .ok (.iload_n 0, 1) := by decide +kernel
theorem dJ6_numberOfLeadingZeros_0f7a4_1 : decode cJ6_numberOfLeadingZeros_0f7a4 1 = .ok (.ifCond .gt 14, 3) := by decide +kernel
theorem dJ6_numberOfLeadingZeros_0f7a4_4 : decode cJ6_numberOfLeadingZeros_0f7a4 4 = .ok (.iload_n 0, 1) := by decide +kernel
theorem dJ6_numberOfLeadingZeros_0f7a4_5 : decode cJ6_numberOfLeadingZeros_0f7a4 5 = .ok (.ifCond .ne 8, 3) := by decide +kernel
theorem dJ6_numberOfLeadingZeros_0f7a4_8 : decode cJ6_numberOfLeadingZeros_0f7a4 8 = .ok (.bipush 32, 2) := by decide +kernel
theorem dJ6_numberOfLeadingZeros_0f7a4_10 : decode cJ6_numberOfLeadingZeros_0f7a4 10 = .ok (.goto 4, 3) := by decide +kernel
theorem dJ6_numberOfLeadingZeros_0f7a4_13 : decode cJ6_numberOfLeadingZeros_0f7a4 13 = .ok (.iconst 0, 1) := by decide +kernel
theorem dJ6_numberOfLeadingZeros_0f7a4_14 : decode cJ6_numberOfLeadingZeros_0f7a4 14 = .ok (.ireturn, 1) := by decide +kernel
theorem dJ6_numberOfLeadingZeros_0f7a4_15 : decode cJ6_numberOfLeadingZeros_0f7a4 15 = .ok (.bipush 31, 2) := by decide +kernel
theorem dJ6_numberOfLeadingZeros_0f7a4_17 : decode cJ6_numberOfLeadingZeros_0f7a4 17 = .ok (.istore_n 1, 1) := by decide +kernel
theorem dJ6_numberOfLeadingZeros_0f7a4_18 : decode cJ6_numberOfLeadingZeros_0f7a4 18 = .ok (.iload_n 0, 1) := by decide +kernel
theorem dJ6_numberOfLeadingZeros_0f7a4_19 : decode cJ6_numberOfLeadingZeros_0f7a4 19 = .ok (.ldc_w 264, 3) := by decide +kernel
theorem dJ6_numberOfLeadingZeros_0f7a4_22 : decode cJ6_numberOfLeadingZeros_0f7a4 22 = .ok (.if_icmp .lt 11, 3) := by decide +kernel
theorem dJ6_numberOfLeadingZeros_0f7a4_25 : decode cJ6_numberOfLeadingZeros_0f7a4 25 = .ok (.iinc 1 (-16), 3) := by decide +kernel
theorem dJ6_numberOfLeadingZeros_0f7a4_28 : decode cJ6_numberOfLeadingZeros_0f7a4 28 = .ok (.iload_n 0, 1) := by decide +kernel
theorem dJ6_numberOfLeadingZeros_0f7a4_29 : decode cJ6_numberOfLeadingZeros_0f7a4 29 = .ok (.bipush 16, 2) := by decide +kernel
theorem dJ6_numberOfLeadingZeros_0f7a4_31 : decode cJ6_numberOfLeadingZeros_0f7a4 31 = .ok (.iushr, 1) := by decide +kernel
theorem dJ6_numberOfLeadingZeros_0f7a4_32 : decode cJ6_numberOfLeadingZeros_0f7a4 32 = .ok (.istore_n 0, 1) := by decide +kernel
theorem dJ6_numberOfLeadingZeros_0f7a4_33 : decode cJ6_numberOfLeadingZeros_0f7a4 33 = .ok (.iload_n 0, 1) := by decide +kernel
theorem dJ6_numberOfLeadingZeros_0f7a4_34 : decode cJ6_numberOfLeadingZeros_0f7a4 34 = .ok (.sipush 256, 3) := by decide +kernel
theorem dJ6_numberOfLeadingZeros_0f7a4_37 : decode cJ6_numberOfLeadingZeros_0f7a4 37 = .ok (.if_icmp .lt 11, 3) := by decide +kernel
theorem dJ6_numberOfLeadingZeros_0f7a4_40 : decode cJ6_numberOfLeadingZeros_0f7a4 40 = .ok (.iinc 1 (-8), 3) := by decide +kernel
theorem dJ6_numberOfLeadingZeros_0f7a4_43 : decode cJ6_numberOfLeadingZeros_0f7a4 43 = .ok (.iload_n 0, 1) := by decide +kernel
theorem dJ6_numberOfLeadingZeros_0f7a4_44 : decode cJ6_numberOfLeadingZeros_0f7a4 44 = .ok (.bipush 8, 2) := by decide +kernel
theorem dJ6_numberOfLeadingZeros_0f7a4_46 : decode cJ6_numberOfLeadingZeros_0f7a4 46 = .ok (.iushr, 1) := by decide +kernel
theorem dJ6_numberOfLeadingZeros_0f7a4_47 : decode cJ6_numberOfLeadingZeros_0f7a4 47 = .ok (.istore_n 0, 1) := by decide +kernel
theorem dJ6_numberOfLeadingZeros_0f7a4_48 : decode cJ6_numberOfLeadingZeros_0f7a4 48 = .ok (.iload_n 0, 1) := by decide +kernel
theorem dJ6_numberOfLeadingZeros_0f7a4_49 : decode cJ6_numberOfLeadingZeros_0f7a4 49 = .ok (.bipush 16, 2) := by decide +kernel
theorem dJ6_numberOfLeadingZeros_0f7a4_51 : decode cJ6_numberOfLeadingZeros_0f7a4 51 = .ok (.if_icmp .lt 10, 3) := by decide +kernel
theorem dJ6_numberOfLeadingZeros_0f7a4_54 : decode cJ6_numberOfLeadingZeros_0f7a4 54 = .ok (.iinc 1 (-4), 3) := by decide +kernel
theorem dJ6_numberOfLeadingZeros_0f7a4_57 : decode cJ6_numberOfLeadingZeros_0f7a4 57 = .ok (.iload_n 0, 1) := by decide +kernel
theorem dJ6_numberOfLeadingZeros_0f7a4_58 : decode cJ6_numberOfLeadingZeros_0f7a4 58 = .ok (.iconst 4, 1) := by decide +kernel
theorem dJ6_numberOfLeadingZeros_0f7a4_59 : decode cJ6_numberOfLeadingZeros_0f7a4 59 = .ok (.iushr, 1) := by decide +kernel
theorem dJ6_numberOfLeadingZeros_0f7a4_60 : decode cJ6_numberOfLeadingZeros_0f7a4 60 = .ok (.istore_n 0, 1) := by decide +kernel
theorem dJ6_numberOfLeadingZeros_0f7a4_61 : decode cJ6_numberOfLeadingZeros_0f7a4 61 = .ok (.iload_n 0, 1) := by decide +kernel
theorem dJ6_numberOfLeadingZeros_0f7a4_62 : decode cJ6_numberOfLeadingZeros_0f7a4 62 = .ok (.iconst 4, 1) := by decide +kernel
theorem dJ6_numberOfLeadingZeros_0f7a4_63 : decode cJ6_numberOfLeadingZeros_0f7a4 63 = .ok (.if_icmp .lt 10, 3) := by decide +kernel
theorem dJ6_numberOfLeadingZeros_0f7a4_66 : decode cJ6_numberOfLeadingZeros_0f7a4 66 = .ok (.iinc 1 (-2), 3) := by decide +kernel
theorem dJ6_numberOfLeadingZeros_0f7a4_69 : decode cJ6_numberOfLeadingZeros_0f7a4 69 = .ok (.iload_n 0, 1) := by decide +kernel
theorem dJ6_numberOfLeadingZeros_0f7a4_70 : decode cJ6_numberOfLeadingZeros_0f7a4 70 = .ok (.iconst 2, 1) := by decide +kernel
theorem dJ6_numberOfLeadingZeros_0f7a4_71 : decode cJ6_numberOfLeadingZeros_0f7a4 71 = .ok (.iushr, 1) := by decide +kernel
theorem dJ6_numberOfLeadingZeros_0f7a4_72 : decode cJ6_numberOfLeadingZeros_0f7a4 72 = .ok (.istore_n 0, 1) := by decide +kernel
theorem dJ6_numberOfLeadingZeros_0f7a4_73 : decode cJ6_numberOfLeadingZeros_0f7a4 73 = .ok (.iload_n 1, 1) := by decide +kernel
theorem dJ6_numberOfLeadingZeros_0f7a4_74 : decode cJ6_numberOfLeadingZeros_0f7a4 74 = .ok (.iload_n 0, 1) := by decide +kernel
theorem dJ6_numberOfLeadingZeros_0f7a4_75 : decode cJ6_numberOfLeadingZeros_0f7a4 75 = .ok (.iconst 1, 1) := by decide +kernel
theorem dJ6_numberOfLeadingZeros_0f7a4_76 : decode cJ6_numberOfLeadingZeros_0f7a4 76 = .ok (.iushr, 1) := by decide +kernel
theorem dJ6_numberOfLeadingZeros_0f7a4_77 : decode cJ6_numberOfLeadingZeros_0f7a4 77 = .ok (.isub, 1) := by decide +kernel
theorem dJ6_numberOfLeadingZeros_0f7a4_78 : decode cJ6_numberOfLeadingZeros_0f7a4 78 = .ok (.ireturn, 1) := by decide +kernel
theorem dJ6_numberOfTrailingZeros_0f7a4_0 : decode cJ6_numberOfTrailingZeros_0f7a4 0 = .ok (.iload_n 0, 1) := by decide +kernel
theorem dJ6_numberOfTrailingZeros_0f7a4_1 : decode cJ6_numberOfTrailingZeros_0f7a4 1 = .ok (.iconst (-1), 1) := by decide +kernel
theorem dJ6_numberOfTrailingZeros_0f7a4_2 : decode cJ6_numberOfTrailingZeros_0f7a4 2 = .ok (.ixor, 1) := by decide +kernel
theorem dJ6_numberOfTrailingZeros_0f7a4_3 : decode cJ6_numberOfTrailingZeros_0f7a4 3 = .ok (.iload_n 0, 1) := by decide +kernel
theorem dJ6_numberOfTrailingZeros_0f7a4_4 : decode cJ6_numberOfTrailingZeros_0f7a4 4 = .ok (.iconst 1, 1) := by decide +kernel
theorem dJ6_numberOfTrailingZeros_0f7a4_5 : decode cJ6_numberOfTrailingZeros_0f7a4 5 = .ok (.isub, 1) := by decide +kernel
theorem dJ6_numberOfTrailingZeros_0f7a4_6 : decode cJ6_numberOfTrailingZeros_0f7a4 6 = .ok (.iand, 1) := by decide +kernel
theorem dJ6_numberOfTrailingZeros_0f7a4_7 : decode cJ6_numberOfTrailingZeros_0f7a4 7 = .ok (.istore_n 0, 1) := by decide +kernel
theorem dJ6_numberOfTrailingZeros_0f7a4_8 : decode cJ6_numberOfTrailingZeros_0f7a4 8 = .ok (.iload_n 0, 1) := by decide +kernel
theorem dJ6_numberOfTrailingZeros_0f7a4_9 : decode cJ6_numberOfTrailingZeros_0f7a4 9 = .ok (.ifCond .gt 8, 3) := by decide +kernel
theorem dJ6_numberOfTrailingZeros_0f7a4_12 : decode cJ6_numberOfTrailingZeros_0f7a4 12 = .ok (.iload_n 0, 1) := by decide +kernel
theorem dJ6_numberOfTrailingZeros_0f7a4_13 : decode cJ6_numberOfTrailingZeros_0f7a4 13 = .ok (.bipush 32, 2) := by decide +kernel
theorem dJ6_numberOfTrailingZeros_0f7a4_15 : decode cJ6_numberOfTrailingZeros_0f7a4 15 = .ok (.iand, 1) := by decide +kernel
theorem dJ6_numberOfTrailingZeros_0f7a4_16 : decode cJ6_numberOfTrailingZeros_0f7a4 16 = .ok (.ireturn, 1) := by decide +kernel
theorem dJ6_numberOfTrailingZeros_0f7a4_17 : decode cJ6_numberOfTrailingZeros_0f7a4 17 = .ok (.iconst 1, 1) := by decide +kernel
theorem dJ6_numberOfTrailingZeros_0f7a4_18 : decode cJ6_numberOfTrailingZeros_0f7a4 18 = .ok (.istore_n 1, 1) := by decide +kernel
theorem dJ6_numberOfTrailingZeros_0f7a4_19 : decode cJ6_numberOfTrailingZeros_0f7a4 19 = .ok (.iload_n 0, 1) := by decide +kernel
theorem dJ6_numberOfTrailingZeros_0f7a4_20 : decode cJ6_numberOfTrailingZeros_0f7a4 20 = .ok (.ldc_w 264, 3) := by decide +kernel
theorem dJ6_numberOfTrailingZeros_0f7a4_23 : decode cJ6_numberOfTrailingZeros_0f7a4 23 = .ok (.if_icmp .le 11, 3) := by decide +kernel
theorem dJ6_numberOfTrailingZeros_0f7a4_26 : decode cJ6_numberOfTrailingZeros_0f7a4 26 = .ok (.iinc 1 16, 3) := by decide +kernel
theorem dJ6_numberOfTrailingZeros_0f7a4_29 : decode cJ6_numberOfTrailingZeros_0f7a4 29 = .ok (.iload_n 0, 1) := by decide +kernel
theorem dJ6_numberOfTrailingZeros_0f7a4_30 : decode cJ6_numberOfTrailingZeros_0f7a4 30 = .ok (.bipush 16, 2) := by decide +kernel
theorem dJ6_numberOfTrailingZeros_0f7a4_32 : decode cJ6_numberOfTrailingZeros_0f7a4 32 = .ok (.iushr, 1) := by decide +kernel
theorem dJ6_numberOfTrailingZeros_0f7a4_33 : decode cJ6_numberOfTrailingZeros_0f7a4 33 = .ok (.istore_n 0, 1) := by decide +kernel
theorem dJ6_numberOfTrailingZeros_0f7a4_34 : decode cJ6_numberOfTrailingZeros_0f7a4 34 = .ok (.iload_n 0, 1) := by decide +kernel
theorem dJ6_numberOfTrailingZeros_0f7a4_35 : decode cJ6_numberOfTrailingZeros_0f7a4 35 = .ok (.sipush 256, 3) := by decide +kernel
theorem dJ6_numberOfTrailingZeros_0f7a4_38 : decode cJ6_numberOfTrailingZeros_0f7a4 38 = .ok (.if_icmp .le 11, 3) := by decide +kernel
theorem dJ6_numberOfTrailingZeros_0f7a4_41 : decode cJ6_numberOfTrailingZeros_0f7a4 41 = .ok (.iinc 1 8, 3) := by decide +kernel
theorem dJ6_numberOfTrailingZeros_0f7a4_44 : decode cJ6_numberOfTrailingZeros_0f7a4 44 = .ok (.iload_n 0, 1) := by decide +kernel
theorem dJ6_numberOfTrailingZeros_0f7a4_45 : decode cJ6_numberOfTrailingZeros_0f7a4 45 = .ok (.bipush 8, 2) := by decide +kernel
theorem dJ6_numberOfTrailingZeros_0f7a4_47 : decode cJ6_numberOfTrailingZeros_0f7a4 47 = .ok (.iushr, 1) := by decide +kernel
theorem dJ6_numberOfTrailingZeros_0f7a4_48 : decode cJ6_numberOfTrailingZeros_0f7a4 48 = .ok (.istore_n 0, 1) := by decide +kernel
theorem dJ6_numberOfTrailingZeros_0f7a4_49 : decode cJ6_numberOfTrailingZeros_0f7a4 49 = .ok (.iload_n 0, 1) := by decide +kernel
theorem dJ6_numberOfTrailingZeros_0f7a4_50 : decode cJ6_numberOfTrailingZeros_0f7a4 50 = .ok (.bipush 16, 2) := by decide +kernel
theorem dJ6_numberOfTrailingZeros_0f7a4_52 : decode cJ6_numberOfTrailingZeros_0f7a4 52 = .ok (.if_icmp .le 10, 3) := by decide +kernel
theorem dJ6_numberOfTrailingZeros_0f7a4_55 : decode cJ6_numberOfTrailingZeros_0f7a4 55 = .ok (.iinc 1 4, 3) := by decide +kernel
theorem dJ6_numberOfTrailingZeros_0f7a4_58 : decode cJ6_numberOfTrailingZeros_0f7a4 58 = .ok (.iload_n 0, 1) := by decide +kernel
theorem dJ6_numberOfTrailingZeros_0f7a4_59 : decode cJ6_numberOfTrailingZeros_0f7a4 59 = .ok (.iconst 4, 1) := by decide +kernel
theorem dJ6_numberOfTrailingZeros_0f7a4_60 : decode cJ6_numberOfTrailingZeros_0f7a4 60 = .ok (.iushr, 1) := by decide +kernel
theorem dJ6_numberOfTrailingZeros_0f7a4_61 : decode cJ6_numberOfTrailingZeros_0f7a4 61 = .ok (.istore_n 0, 1) := by decide +kernel
theorem dJ6_numberOfTrailingZeros_0f7a4_62 : decode cJ6_numberOfTrailingZeros_0f7a4 62 = .ok (.iload_n 0, 1) := by decide +kernel
theorem dJ6_numberOfTrailingZeros_0f7a4_63 : decode cJ6_numberOfTrailingZeros_0f7a4 63 = .ok (.iconst 4, 1) := by decide +kernel
theorem dJ6_numberOfTrailingZeros_0f7a4_64 : decode cJ6_numberOfTrailingZeros_0f7a4 64 = .ok (.if_icmp .le 10, 3) := by decide +kernel
theorem dJ6_numberOfTrailingZeros_0f7a4_67 : decode cJ6_numberOfTrailingZeros_0f7a4 67 = .ok (.iinc 1 2, 3) := by decide +kernel
theorem dJ6_numberOfTrailingZeros_0f7a4_70 : decode cJ6_numberOfTrailingZeros_0f7a4 70 = .ok (.iload_n 0, 1) := by decide +kernel
theorem dJ6_numberOfTrailingZeros_0f7a4_71 : decode cJ6_numberOfTrailingZeros_0f7a4 71 = .ok (.iconst 2, 1) := by decide +kernel
theorem dJ6_numberOfTrailingZeros_0f7a4_72 : decode cJ6_numberOfTrailingZeros_0f7a4 72 = .ok (.iushr, 1) := by decide +kernel
theorem dJ6_numberOfTrailingZeros_0f7a4_73 : decode cJ6_numberOfTrailingZeros_0f7a4 73 = .ok (.istore_n 0, 1) := by decide +kernel
theorem dJ6_numberOfTrailingZeros_0f7a4_74 : decode cJ6_numberOfTrailingZeros_0f7a4 74 = .ok (.iload_n 1, 1) := by decide +kernel
theorem dJ6_numberOfTrailingZeros_0f7a4_75 : decode cJ6_numberOfTrailingZeros_0f7a4 75 = .ok (.iload_n 0, 1) := by decide +kernel
theorem dJ6_numberOfTrailingZeros_0f7a4_76 : decode cJ6_numberOfTrailingZeros_0f7a4 76 = .ok (.iconst 1, 1) := by decide +kernel
theorem dJ6_numberOfTrailingZeros_0f7a4_77 : decode cJ6_numberOfTrailingZeros_0f7a4 77 = .ok (.iushr, 1) := by decide +kernel
theorem dJ6_numberOfTrailingZeros_0f7a4_78 : decode cJ6_numberOfTrailingZeros_0f7a4 78 = .ok (.iadd, 1) := by decide +kernel
theorem dJ6_numberOfTrailingZeros_0f7a4_79 : decode cJ6_numberOfTrailingZeros_0f7a4 79 = .ok (.ireturn, 1) := by decide +kernel
theorem dJ13_numberOfLeadingZeros_95d88_0 : decode cJ13_numberOfLeadingZeros_95d88 0 = .ok (.lload_n 0, 1) := by decide +kernel
theorem dJ13_numberOfLeadingZeros_95d88_1 : decode cJ13_numberOfLeadingZeros_95d88 1 = .ok (.bipush 32, 2) := by decide +kernel
theorem dJ13_numberOfLeadingZeros_95d88_3 : decode cJ13_numberOfLeadingZeros_95d88 3 = .ok (.lushr, 1) := by decide +kernel
theorem dJ13_numberOfLeadingZeros_95d88_4 : decode cJ13_numberOfLeadingZeros_95d88 4 = .ok (.l2i, 1) := by decide +kernel
theorem dJ13_numberOfLeadingZeros_95d88_5 : decode cJ13_numberOfLeadingZeros_95d88 5 = .ok (.istore_n 2, 1) := by decide +kernel
theorem dJ13_numberOfLeadingZeros_95d88_6 : decode cJ13_numberOfLeadingZeros_95d88 6 = .ok (.iload_n 2, 1) := by decide +kernel
theorem dJ13_numberOfLeadingZeros_95d88_7 : decode cJ13_numberOfLeadingZeros_95d88 7 = .ok (.ifCond .ne 14, 3) := by decide +kernel
theorem dJ13_numberOfLeadingZeros_95d88_10 : decode cJ13_numberOfLeadingZeros_95d88 10 = .ok (.bipush 32, 2) := by decide +kernel
theorem dJ13_numberOfLeadingZeros_95d88_12 : decode cJ13_numberOfLeadingZeros_95d88 12 = .ok (.lload_n 0, 1) := by decide +kernel
theorem dJ13_numberOfLeadingZeros_95d88_13 : decode cJ13_numberOfLeadingZeros_95d88 13 = .ok (.l2i, 1) := by decide +kernel
theorem dJ13_numberOfLeadingZeros_95d88_14 : decode cJ13_numberOfLeadingZeros_95d88 14 = .ok (.invokestatic 308, 3) := by decide +kernel
theorem dJ13_numberOfLeadingZeros_95d88_17 : decode cJ13_numberOfLeadingZeros_95d88 17 = .ok (.iadd, 1) := by decide +kernel
theorem dJ13_numberOfLeadingZeros_95d88_18 : decode cJ13_numberOfLeadingZeros_95d88 18 = .ok (.goto 7, 3) := by decide +kernel
theorem dJ13_numberOfLeadingZeros_95d88_21 : decode cJ13_numberOfLeadingZeros_95d88 21 = .ok (.iload_n 2, 1) := by decide +kernel
theorem dJ13_numberOfLeadingZeros_95d88_22 : decode cJ13_numberOfLeadingZeros_95d88 22 = .ok (.invokestatic 308, 3) := by decide +kernel
theorem dJ13_numberOfLeadingZeros_95d88_25 : decode cJ13_numberOfLeadingZeros_95d88 25 = .ok (.ireturn, 1) := by decide +kernel
theorem dJ13_numberOfTrailingZeros_95d88_0 : decode cJ13_numberOfTrailingZeros_95d88 0 = .ok (.lload_n 0, 1) := by decide +kernel
theorem dJ13_numberOfTrailingZeros_95d88_1 : decode cJ13_numberOfTrailingZeros_95d88 1 = .ok (.l2i, 1) := by decide +kernel
theorem dJ13_numberOfTrailingZeros_95d88_2 : decode cJ13_numberOfTrailingZeros_95d88 2 = .ok (.istore_n 2, 1) := by decide +kernel
theorem dJ13_numberOfTrailingZeros_95d88_3 : decode cJ13_numberOfTrailingZeros_95d88 3 = .ok (.iload_n 2, 1) := by decide +kernel
theorem dJ13_numberOfTrailingZeros_95d88_4 : decode cJ13_numberOfTrailingZeros_95d88 4 = .ok (.ifCond .ne 17, 3) := by decide +kernel
theorem dJ13_numberOfTrailingZeros_95d88_7 : decode cJ13_numberOfTrailingZeros_95d88 7 = .ok (.bipush 32, 2) := by decide +kernel
theorem dJ13_numberOfTrailingZeros_95d88_9 : decode cJ13_numberOfTrailingZeros_95d88 9 = .ok (.lload_n 0, 1) := by decide +kernel
theorem dJ13_numberOfTrailingZeros_95d88_10 : decode cJ13_numberOfTrailingZeros_95d88 10 = .ok (.bipush 32, 2) := by decide +kernel
theorem dJ13_numberOfTrailingZeros_95d88_12 : decode cJ13_numberOfTrailingZeros_95d88 12 = .ok (.lushr, 1) := by decide +kernel
theorem dJ13_numberOfTrailingZeros_95d88_13 : decode cJ13_numberOfTrailingZeros_95d88 13 = .ok (.l2i, 1) := by decide +kernel
theorem dJ13_numberOfTrailingZeros_95d88_14 : decode cJ13_numberOfTrailingZeros_95d88 14 = .ok (.invokestatic 311, 3) := by decide +kernel
theorem dJ13_numberOfTrailingZeros_95d88_17 : decode cJ13_numberOfTrailingZeros_95d88 17 = .ok (.iadd, 1) := by decide +kernel
theorem dJ13_numberOfTrailingZeros_95d88_18 : decode cJ13_numberOfTrailingZeros_95d88 18 = .ok (.goto 7, 3) := by decide +kernel
theorem dJ13_numberOfTrailingZeros_95d88_21 : decode cJ13_numberOfTrailingZeros_95d88 21 = .ok (.iload_n 2, 1) := by decide +kernel
theorem dJ13_numberOfTrailingZeros_95d88_22 : decode cJ13_numberOfTrailingZeros_95d88 22 = .ok (.invokestatic 311, 3) := by decide +kernel
theorem dJ13_numberOfTrailingZeros_95d88_25 : decode cJ13_numberOfTrailingZeros_95d88 25 = .ok (.ireturn, 1) := by decide +kernel
theorem dJ13_bitCount_95d88_0 : decode cJ13_bitCount_95d88 0 = .ok (.lload_n 0, 1) := by decide +kernel
theorem dJ13_bitCount_95d88_1 : decode cJ13_bitCount_95d88 1 = .ok (.lload_n 0, 1) := by decide +kernel
theorem dJ13_bitCount_95d88_2 : decode cJ13_bitCount_95d88 2 = .ok (.iconst 1, 1) := by decide +kernel
theorem dJ13_bitCount_95d88_3 : decode cJ13_bitCount_95d88 3 = .ok (.lushr, 1) := by decide +kernel
theorem dJ13_bitCount_95d88_4 : decode cJ13_bitCount_95d88 4 = .ok (.ldc2_w 314, 3) := by decide +kernel
theorem dJ13_bitCount_95d88_7 : decode cJ13_bitCount_95d88 7 = .ok (.land, 1) := by decide +kernel
theorem dJ13_bitCount_95d88_8 : decode cJ13_bitCount_95d88 8 = .ok (.lsub, 1) := by decide +kernel
theorem dJ13_bitCount_95d88_9 : decode cJ13_bitCount_95d88 9 = .ok (.lstore_n 0, 1) := by decide +kernel
theorem dJ13_bitCount_95d88_10 : decode cJ13_bitCount_95d88 10 = .ok (.lload_n 0, 1) := by decide +kernel
theorem dJ13_bitCount_95d88_11 : decode cJ13_bitCount_95d88 11 = .ok (.ldc2_w 316, 3) := by decide +kernel
theorem dJ13_bitCount_95d88_14 : decode cJ13_bitCount_95d88 14 = .ok (.land, 1) := by decide +kernel
theorem dJ13_bitCount_95d88_15 : decode cJ13_bitCount_95d88 15 = .ok (.lload_n 0, 1) := by decide +kernel
theorem dJ13_bitCount_95d88_16 : decode cJ13_bitCount_95d88 16 = .ok (.iconst 2, 1) := by decide +kernel
theorem dJ13_bitCount_95d88_17 : decode cJ13_bitCount_95d88 17 = .ok (.lushr, 1) := by decide +kernel
theorem dJ13_bitCount_95d88_18 : decode cJ13_bitCount_95d88 18 = .ok (.ldc2_w 316, 3) := by decide +kernel
theorem dJ13_bitCount_95d88_21 : decode cJ13_bitCount_95d88 21 = .ok (.land, 1) := by decide +kernel
theorem dJ13_bitCount_95d88_22 : decode cJ13_bitCount_95d88 22 = .ok (.ladd, 1) := by decide +kernel
theorem dJ13_bitCount_95d88_23 : decode cJ13_bitCount_95d88 23 = .ok (.lstore_n 0, 1) := by decide +kernel
theorem dJ13_bitCount_95d88_24 : decode cJ13_bitCount_95d88 24 = .ok (.lload_n 0, 1) := by decide +kernel
theorem dJ13_bitCount_95d88_25 : decode cJ13_bitCount_95d88 25 = .ok (.lload_n 0, 1) := by decide +kernel
theorem dJ13_bitCount_95d88_26 : decode cJ13_bitCount_95d88 26 = .ok (.iconst 4, 1) := by decide +kernel
theorem dJ13_bitCount_95d88_27 : decode cJ13_bitCount_95d88 27 = .ok (.lushr, 1) := by decide +kernel
theorem dJ13_bitCount_95d88_28 : decode cJ13_bitCount_95d88 28 = .ok (.ladd, 1) := by decide +kernel
theorem dJ13_bitCount_95d88_29 : decode cJ13_bitCount_95d88 29 = .ok (.ldc2_w 318, 3) := by decide +kernel
theorem dJ13_bitCount_95d88_32 : decode cJ13_bitCount_95d88 32 = .ok (.land, 1) := by decide +kernel
theorem dJ13_bitCount_95d88_33 : decode cJ13_bitCount_95d88 33 = .ok (.lstore_n 0, 1) := by decide +kernel
theorem dJ13_bitCount_95d88_34 : decode cJ13_bitCount_95d88 34 = .ok (.lload_n 0, 1) := by decide +kernel
theorem dJ13_bitCount_95d88_35 : decode cJ13_bitCount_95d88 35 = .ok (.lload_n 0, 1) := by decide +kernel
theorem dJ13_bitCount_95d88_36 : decode cJ13_bitCount_95d88 36 = .ok (.bipush 8, 2) := by decide +kernel
theorem dJ13_bitCount_95d88_38 : decode cJ13_bitCount_95d88 38 = .ok (.lushr, 1) := by decide +kernel
theorem dJ13_bitCount_95d88_39 : decode cJ13_bitCount_95d88 39 = .ok (.ladd, 1) := by decide +kernel
theorem dJ13_bitCount_95d88_40 : decode cJ13_bitCount_95d88 40 = .ok (.lstore_n 0, 1) := by decide +kernel
theorem dJ13_bitCount_95d88_41 : decode cJ13_bitCount_95d88 41 = .ok (.lload_n 0, 1) := by decide +kernel
theorem dJ13_bitCount_95d88_42 : decode cJ13_bitCount_95d88 42 = .ok (.lload_n 0, 1) := by decide +kernel
theorem dJ13_bitCount_95d88_43 : decode cJ13_bitCount_95d88 43 = .ok (.bipush 16, 2) := by decide +kernel
theorem dJ13_bitCount_95d88_45 : decode cJ13_bitCount_95d88 45 = .ok (.lushr, 1) := by decide +kernel
theorem dJ13_bitCount_95d88_46 : decode cJ13_bitCount_95d88 46 = .ok (.ladd, 1) := by decide +kernel
theorem dJ13_bitCount_95d88_47 : decode cJ13_bitCount_95d88 47 = .ok (.lstore_n 0, 1) := by decide +kernel
theorem dJ13_bitCount_95d88_48 : decode cJ13_bitCount_95d88 48 = .ok (.lload_n 0, 1) := by decide +kernel
theorem dJ13_bitCount_95d88_49 : decode cJ13_bitCount_95d88 49 = .ok (.lload_n 0, 1) := by decide +kernel
theorem dJ13_bitCount_95d88_50 : decode cJ13_bitCount_95d88 50 = .ok (.bipush 32, 2) := by decide +kernel
theorem dJ13_bitCount_95d88_52 : decode cJ13_bitCount_95d88 52 = .ok (.lushr, 1) := by decide +kernel
theorem dJ13_bitCount_95d88_53 : decode cJ13_bitCount_95d88 53 = .ok (.ladd, 1) := by decide +kernel
theorem dJ13_bitCount_95d88_54 : decode cJ13_bitCount_95d88 54 = .ok (.lstore_n 0, 1) := by decide +kernel
theorem dJ13_bitCount_95d88_55 : decode cJ13_bitCount_95d88 55 = .ok (.lload_n 0, 1) := by decide +kernel
theorem dJ13_bitCount_95d88_56 : decode cJ13_bitCount_95d88 56 = .ok (.l2i, 1) := by decide +kernel
theorem dJ13_bitCount_95d88_57 : decode cJ13_bitCount_95d88 57 = .ok (.bipush 127, 2) := by decide +kernel
theorem dJ13_bitCount_95d88_59 : decode cJ13_bitCount_95d88 59 = .ok (.iand, 1) := by decide +kernel
theorem dJ13_bitCount_95d88_60 : decode cJ13_bitCount_95d88 60 = .ok (.ireturn, 1) := by decide +kernel
theorem dJ9_max_7cf53_0 : decode cJ9_max_7cf53 0 = .ok (.iload_n 0, 1) := by decide +kernel
theorem dJ9_max_7cf53_1 : decode cJ9_max_7cf53 1 = .ok (.iload_n 1, 1) := by decide +kernel
theorem dJ9_max_7cf53_2 : decode cJ9_max_7cf53 2 = .ok (.if_icmp .lt 7, 3) := by decide +kernel
theorem dJ9_max_7cf53_5 : decode cJ9_max_7cf53 5 = .ok (.iload_n 0, 1) := by decide +kernel
theorem dJ9_max_7cf53_6 : decode cJ9_max_7cf53 6 = .ok (.goto 4, 3) := by decide +kernel
theorem dJ9_max_7cf53_9 : decode cJ9_max_7cf53 9 = .ok (.iload_n 1, 1) := by decide +kernel
theorem dJ9_max_7cf53_10 : decode cJ9_max_7cf53 10 = .ok (.ireturn, 1) := by decide +kernel
theorem dJ9_min_7cf53_0 : decode cJ9_min_7cf53 0 = .ok (.iload_n 0, 1) := by decide +kernel
theorem dJ9_min_7cf53_1 : decode cJ9_min_7cf53 1 = .ok (.iload_n 1, 1) := by decide +kernel
theorem dJ9_min_7cf53_2 : decode cJ9_min_7cf53 2 = .ok (.if_icmp .gt 7, 3) := by decide +kernel
theorem dJ9_min_7cf53_5 : decode cJ9_min_7cf53 5 = .ok (.iload_n 0, 1) := by decide +kernel
theorem dJ9_min_7cf53_6 : decode cJ9_min_7cf53 6 = .ok (.goto 4, 3) := by decide +kernel
theorem dJ9_min_7cf53_9 : decode cJ9_min_7cf53 9 = .ok (.iload_n 1, 1) := by decide +kernel
theorem dJ9_min_7cf53_10 : decode cJ9_min_7cf53 10 = .ok (.ireturn, 1) := by decide +kernel
theorem dJ9_min_f86c9_0 : decode cJ9_min_f86c9 0 = .ok (.lload_n 0, 1) := by decide +kernel
theorem dJ9_min_f86c9_1 : decode cJ9_min_f86c9 1 = .ok (.lload_n 2, 1) := by decide +kernel
theorem dJ9_min_f86c9_2 : decode cJ9_min_f86c9 2 = .ok (.lcmp, 1) := by decide +kernel
theorem dJ9_min_f86c9_3 : decode cJ9_min_f86c9 3 = .ok (.ifCond .gt 7, 3) := by decide +kernel
theorem dJ9_min_f86c9_6 : decode cJ9_min_f86c9 6 = .ok (.lload_n 0, 1) := by decide +kernel
theorem dJ9_min_f86c9_7 : decode cJ9_min_f86c9 7 = .ok (.goto 4, 3) := by decide +kernel
theorem dJ9_min_f86c9_10 : decode cJ9_min_f86c9 10 = .ok (.lload_n 2, 1) := by decide +kernel
theorem dJ9_min_f86c9_11 : decode cJ9_min_f86c9 11 = .ok (.lreturn, 1) := by decide +kernel
theorem dJ0_length_8abf5_0 : decode cJ0_length_8abf5 0 = .ok (.aload_n 0, 1) := by decide +kernel
theorem dJ0_length_8abf5_1 : decode cJ0_length_8abf5 1 = .ok (.getfield 9, 3) := by decide +kernel
theorem dJ0_length_8abf5_4 : decode cJ0_length_8abf5 4 = .ok (.arraylength, 1) := by decide +kernel
theorem dJ0_length_8abf5_5 : decode cJ0_length_8abf5 5 = .ok (.aload_n 0, 1) := by decide +kernel
theorem dJ0_length_8abf5_6 : decode cJ0_length_8abf5 6 = .ok (.invokevirtual 335, 3) := by decide +kernel
theorem dJ0_length_8abf5_9 : decode cJ0_length_8abf5 9 = .ok (.ishr, 1) := by decide +kernel
theorem dJ0_length_8abf5_10 : decode cJ0_length_8abf5 10 = .ok (.ireturn, 1) := by decide +kernel
theorem dJ0_charAt_5068e_0 : decode cJ0_charAt_5068e 0 = .ok (.aload_n 0, 1) := by decide +kernel
theorem dJ0_charAt_5068e_1 : decode cJ0_charAt_5068e 1 = .ok (.invokevirtual 492, 3) := by decide +kernel
theorem dJ0_charAt_5068e_4 : decode cJ0_charAt_5068e 4 = .ok (.ifCond .eq 12, 3) := by decide +kernel
theorem dJ0_charAt_5068e_7 : decode cJ0_charAt_5068e 7 = .ok (.aload_n 0, 1) := by decide +kernel
theorem dJ0_charAt_5068e_8 : decode cJ0_charAt_5068e 8 = .ok (.getfield 9, 3) := by decide +kernel
theorem dJ0_charAt_5068e_11 : decode cJ0_charAt_5068e 11 = .ok (.iload_n 1, 1) := by decide +kernel
theorem dJ0_charAt_5068e_12 : decode cJ0_charAt_5068e 12 = .ok (.invokestatic 495, 3) := by decide +kernel
theorem dJ0_charAt_5068e_15 : decode cJ0_charAt_5068e 15 = .ok (.ireturn, 1) := by decide +kernel
theorem dJ0_charAt_5068e_16 : decode cJ0_charAt_5068e 16 = .ok (.aload_n 0, 1) := by decide +kernel
theorem dJ0_charAt_5068e_17 : decode cJ0_charAt_5068e 17 = .ok (.getfield 9, 3) := by decide +kernel
theorem dJ0_charAt_5068e_20 : decode cJ0_charAt_5068e 20 = .ok (.iload_n 1, 1) := by decide +kernel
theorem dJ0_charAt_5068e_21 : decode cJ0_charAt_5068e 21 = .ok (.invokestatic 498, 3) := by decide +kernel
theorem dJ0_charAt_5068e_24 : decode cJ0_charAt_5068e 24 = .ok (.ireturn, 1) := by decide +kernel
theorem dJ0_coder_7d493_0 : decode cJ0_coder_7d493 0 = .ok (.getstatic 38, 3) := by decide +kernel
theorem dJ0_coder_7d493_3 : decode cJ0_coder_7d493 3 = .ok (.ifCond .eq 10, 3) := by decide +kernel
theorem dJ0_coder_7d493_6 : decode cJ0_coder_7d493 6 = .ok (.aload_n 0, 1) := by decide +kernel
theorem dJ0_coder_7d493_7 : decode cJ0_coder_7d493 7 = .ok (.getfield 15, 3) := by decide +kernel
theorem dJ0_coder_7d493_10 : decode cJ0_coder_7d493 10 = .ok (.goto 4, 3) := by decide +kernel
theorem dJ0_coder_7d493_13 : decode cJ0_coder_7d493 13 = .ok (.iconst 1, 1) := by decide +kernel
theorem dJ0_coder_7d493_14 : decode cJ0_coder_7d493 14 = .ok (.ireturn, 1) := by decide +kernel
theorem dJ0_isLatin1_aae02_0 : decode cJ0_isLatin1_aae02 0 = .ok (.getstatic 38, 3) := by decide +kernel
theorem dJ0_isLatin1_aae02_3 : decode cJ0_isLatin1_aae02 3 = .ok (.ifCond .eq 14, 3) := by decide +kernel
theorem dJ0_isLatin1_aae02_6 : decode cJ0_isLatin1_aae02 6 = .ok (.aload_n 0, 1) := by decide +kernel
theorem dJ0_isLatin1_aae02_7 : decode cJ0_isLatin1_aae02 7 = .ok (.getfield 15, 3) := by decide +kernel
theorem dJ0_isLatin1_aae02_10 : decode cJ0_isLatin1_aae02 10 = .ok (.ifCond .ne 7, 3) := by decide +kernel
theorem dJ0_isLatin1_aae02_13 : decode cJ0_isLatin1_aae02 13 = .ok (.iconst 1, 1) := by decide +kernel
theorem dJ0_isLatin1_aae02_14 : decode cJ0_isLatin1_aae02 14 = .ok (.goto 4, 3) := by decide +kernel
theorem dJ0_isLatin1_aae02_17 : decode cJ0_isLatin1_aae02 17 = .ok (.iconst 0, 1) := by decide +kernel
theorem dJ0_isLatin1_aae02_18 : decode cJ0_isLatin1_aae02 18 = .ok (.ireturn, 1) := by decide +kernel
theorem dJ0_checkIndex_df160_0 : decode cJ0_checkIndex_df160 0 = .ok (.iload_n 0, 1) := by decide +kernel
theorem dJ0_checkIndex_df160_1 : decode cJ0_checkIndex_df160 1 = .ok (.iload_n 1, 1) := by decide +kernel
theorem dJ0_checkIndex_df160_2 : decode cJ0_checkIndex_df160 2 = .ok (.getstatic 1053, 3) := by decide +kernel
theorem dJ0_checkIndex_df160_5 : decode cJ0_checkIndex_df160 5 = .ok (.invokestatic 1059, 3) := by decide +kernel
theorem dJ0_checkIndex_df160_8 : decode cJ0_checkIndex_df160 8 = .ok (.pop, 1) := by decide +kernel
theorem dJ0_checkIndex_df160_9 : decode cJ0_checkIndex_df160 9 = .ok (.return_, 1) := by decide +kernel
theorem dJ1_charAt_3b067_0 : decode cJ1_charAt_3b067 0 = .ok (.iload_n 1, 1) := by decide +kernel
theorem dJ1_charAt_3b067_1 : decode cJ1_charAt_3b067 1 = .ok (.aload_n 0, 1) := by decide +kernel
theorem dJ1_charAt_3b067_2 : decode cJ1_charAt_3b067 2 = .ok (.arraylength, 1) := by decide +kernel
theorem dJ1_charAt_3b067_3 : decode cJ1_charAt_3b067 3 = .ok (.invokestatic 9, 3) := by decide +kernel
theorem dJ1_charAt_3b067_6 : decode cJ1_charAt_3b067 6 = .ok (.aload_n 0, 1) := by decide +kernel
theorem dJ1_charAt_3b067_7 : decode cJ1_charAt_3b067 7 = .ok (.iload_n 1, 1) := by decide +kernel
theorem dJ1_charAt_3b067_8 : decode cJ1_charAt_3b067 8 = .ok (.baload, 1) := by decide +kernel
theorem dJ1_charAt_3b067_9 : decode cJ1_charAt_3b067 9 = .ok (.sipush 255, 3) := by decide +kernel
theorem dJ1_charAt_3b067_12 : decode cJ1_charAt_3b067 12 = .ok (.iand, 1) := by decide +kernel
theorem dJ1_charAt_3b067_13 : decode cJ1_charAt_3b067 13 = .ok (.i2c, 1) := by decide +kernel
theorem dJ1_charAt_3b067_14 : decode cJ1_charAt_3b067 14 = .ok (.ireturn, 1) := by decide +kernel
theorem dJ2_getChar_3b067_0 : decode cJ2_getChar_3b067 0 = .ok (.getstatic 44, 3) := by decide +kernel
theorem dJ2_getChar_3b067_3 : decode cJ2_getChar_3b067 3 = .ok (.ifCond .ne 25, 3) := by decide +kernel
theorem dJ2_getChar_3b067_6 : decode cJ2_getChar_3b067 6 = .ok (.iload_n 1, 1) := by decide +kernel
theorem dJ2_getChar_3b067_7 : decode cJ2_getChar_3b067 7 = .ok (.ifCond .lt 11, 3) := by decide +kernel
theorem dJ2_getChar_3b067_10 : decode cJ2_getChar_3b067 10 = .ok (.iload_n 1, 1) := by decide +kernel
theorem dJ2_getChar_3b067_11 : decode cJ2_getChar_3b067 11 = .ok (.aload_n 0, 1) := by decide +kernel
theorem dJ2_getChar_3b067_12 : decode cJ2_getChar_3b067 12 = .ok (.invokestatic 48, 3) := by decide +kernel
theorem dJ2_getChar_3b067_15 : decode cJ2_getChar_3b067 15 = .ok (.if_icmp .lt 13, 3) := by decide +kernel
theorem dJ2_getChar_3b067_18 : decode cJ2_getChar_3b067 18 = .ok (.new 52, 3) := by decide +kernel
theorem dJ2_getChar_3b067_21 : decode cJ2_getChar_3b067 21 = .ok (.dup, 1) := by decide +kernel
theorem dJ2_getChar_3b067_22 : decode cJ2_getChar_3b067 22 = .ok (.ldc 54, 2) := by decide +kernel
theorem dJ2_getChar_3b067_24 : decode cJ2_getChar_3b067 24 = .ok (.invokespecial 56, 3) := by decide +kernel
theorem dJ2_getChar_3b067_27 : decode cJ2_getChar_3b067 27 = .ok (.athrow, 1) := by decide +kernel
theorem dJ2_getChar_3b067_28 : decode cJ2_getChar_3b067 28 = .ok (.iload_n 1, 1) := by decide +kernel
theorem dJ2_getChar_3b067_29 : decode cJ2_getChar_3b067 29 = .ok (.iconst 1, 1) := by decide +kernel
theorem dJ2_getChar_3b067_30 : decode cJ2_getChar_3b067 30 = .ok (.ishl, 1) := by decide +kernel
theorem dJ2_getChar_3b067_31 : decode cJ2_getChar_3b067 31 = .ok (.istore_n 1, 1) := by decide +kernel
theorem dJ2_getChar_3b067_32 : decode cJ2_getChar_3b067 32 = .ok (.aload_n 0, 1) := by decide +kernel
theorem dJ2_getChar_3b067_33 : decode cJ2_getChar_3b067 33 = .ok (.iload_n 1, 1) := by decide +kernel
theorem dJ2_getChar_3b067_34 : decode cJ2_getChar_3b067 34 = .ok (.iinc 1 1, 3) := by decide +kernel
theorem dJ2_getChar_3b067_37 : decode cJ2_getChar_3b067 37 = .ok (.baload, 1) := by decide +kernel
theorem dJ2_getChar_3b067_38 : decode cJ2_getChar_3b067 38 = .ok (.sipush 255, 3) := by decide +kernel
theorem dJ2_getChar_3b067_41 : decode cJ2_getChar_3b067 41 = .ok (.iand, 1) := by decide +kernel
theorem dJ2_getChar_3b067_42 : decode cJ2_getChar_3b067 42 = .ok (.getstatic 59, 3) := by decide +kernel
theorem dJ2_getChar_3b067_45 : decode cJ2_getChar_3b067 45 = .ok (.ishl, 1) := by decide +kernel
theorem dJ2_getChar_3b067_46 : decode cJ2_getChar_3b067 46 = .ok (.aload_n 0, 1) := by decide +kernel
theorem dJ2_getChar_3b067_47 : decode cJ2_getChar_3b067 47 = .ok (.iload_n 1, 1) := by decide +kernel
theorem dJ2_getChar_3b067_48 : decode cJ2_getChar_3b067 48 = .ok (.baload, 1) := by decide +kernel
theorem dJ2_getChar_3b067_49 : decode cJ2_getChar_3b067 49 = .ok (.sipush 255, 3) := by decide +kernel
theorem dJ2_getChar_3b067_52 : decode cJ2_getChar_3b067 52 = .ok (.iand, 1) := by decide +kernel
theorem dJ2_getChar_3b067_53 : decode cJ2_getChar_3b067 53 = .ok (.getstatic 63, 3) := by decide +kernel
theorem dJ2_getChar_3b067_56 : decode cJ2_getChar_3b067 56 = .ok (.ishl, 1) := by decide +kernel
theorem dJ2_getChar_3b067_57 : decode cJ2_getChar_3b067 57 = .ok (.ior, 1) := by decide +kernel
theorem dJ2_getChar_3b067_58 : decode cJ2_getChar_3b067 58 = .ok (.i2c, 1) := by decide +kernel
theorem dJ2_getChar_3b067_59 : decode cJ2_getChar_3b067 59 = .ok (.ireturn, 1) := by decide +kernel
theorem dJ2_length_9d52b_0 : decode cJ2_length_9d52b 0 = .ok (.aload_n 0, 1) := by decide +kernel
theorem dJ2_length_9d52b_1 : decode cJ2_length_9d52b 1 = .ok (.arraylength, 1) := by decide +kernel
theorem dJ2_length_9d52b_2 : decode cJ2_length_9d52b 2 = .ok (.iconst 1, 1) := by decide +kernel
theorem dJ2_length_9d52b_3 : decode cJ2_length_9d52b 3 = .ok (.ishr, 1) := by decide +kernel
theorem dJ2_length_9d52b_4 : decode cJ2_length_9d52b 4 = .ok (.ireturn, 1) := by decide +kernel
theorem dJ2_charAt_3b067_0 : decode cJ2_charAt_3b067 0 = .ok (.iload_n 1, 1) := by decide +kernel
theorem dJ2_charAt_3b067_1 : decode cJ2_charAt_3b067 1 = .ok (.aload_n 0, 1) := by decide +kernel
theorem dJ2_charAt_3b067_2 : decode cJ2_charAt_3b067 2 = .ok (.invokestatic 67, 3) := by decide +kernel
theorem dJ2_charAt_3b067_5 : decode cJ2_charAt_3b067 5 = .ok (.aload_n 0, 1) := by decide +kernel
theorem dJ2_charAt_3b067_6 : decode cJ2_charAt_3b067 6 = .ok (.iload_n 1, 1) := by decide +kernel
theorem dJ2_charAt_3b067_7 : decode cJ2_charAt_3b067 7 = .ok (.invokestatic 71, 3) := by decide +kernel
theorem dJ2_charAt_3b067_10 : decode cJ2_charAt_3b067 10 = .ok (.ireturn, 1) := by decide +kernel
theorem dJ2_checkIndex_2214a_0 : decode cJ2_checkIndex_2214a 0 = .ok (.iload_n 0, 1) := by decide +kernel
theorem dJ2_checkIndex_2214a_1 : decode cJ2_checkIndex_2214a 1 = .ok (.aload_n 1, 1) := by decide +kernel
theorem dJ2_checkIndex_2214a_2 : decode cJ2_checkIndex_2214a 2 = .ok (.invokestatic 48, 3) := by decide +kernel
theorem dJ2_checkIndex_2214a_5 : decode cJ2_checkIndex_2214a 5 = .ok (.invokestatic 414, 3) := by decide +kernel
theorem dJ2_checkIndex_2214a_8 : decode cJ2_checkIndex_2214a 8 = .ok (.return_, 1) := by decide +kernel
theorem dJ3_checkIndex_8e157_0 : decode cJ3_checkIndex_8e157 0 = .ok (.iload_n 0, 1) := by decide +kernel
theorem dJ3_checkIndex_8e157_1 : decode cJ3_checkIndex_8e157 1 = .ok (.ifCond .lt 8, 3) := by decide +kernel
theorem dJ3_checkIndex_8e157_4 : decode cJ3_checkIndex_8e157 4 = .ok (.iload_n 0, 1) := by decide +kernel
theorem dJ3_checkIndex_8e157_5 : decode cJ3_checkIndex_8e157 5 = .ok (.iload_n 1, 1) := by decide +kernel
theorem dJ3_checkIndex_8e157_6 : decode cJ3_checkIndex_8e157 6 = .ok (.if_icmp .lt 10, 3) := by decide +kernel
theorem dJ3_checkIndex_8e157_9 : decode cJ3_checkIndex_8e157 9 = .ok (.aload_n 2, 1) := by decide +kernel
theorem dJ3_checkIndex_8e157_10 : decode cJ3_checkIndex_8e157 10 = .ok (.iload_n 0, 1) := by decide +kernel
theorem dJ3_checkIndex_8e157_11 : decode cJ3_checkIndex_8e157 11 = .ok (.iload_n 1, 1) := by decide +kernel
theorem dJ3_checkIndex_8e157_12 : decode cJ3_checkIndex_8e157 12 = .ok (.invokestatic 95, 3) := by decide +kernel
theorem dJ3_checkIndex_8e157_15 : decode cJ3_checkIndex_8e157 15 = .ok (.athrow, 1) := by decide +kernel
theorem dJ3_checkIndex_8e157_16 : decode cJ3_checkIndex_8e157 16 = .ok (.iload_n 0, 1) := by decide +kernel
theorem dJ3_checkIndex_8e157_17 : decode cJ3_checkIndex_8e157 17 = .ok (.ireturn, 1) := by decide +kernel
theorem dL_law_0 : decode cL_law 0 = .ok (.new 7, 3) := by decide +kernel
theorem dL_law_3 : decode cL_law 3 = .ok (.dup, 1) := by decide +kernel
theorem dL_law_4 : decode cL_law 4 = .ok (.invokespecial 9, 3) := by decide +kernel
theorem dL_law_7 : decode cL_law 7 = .ok (.astore_n 1, 1) := by decide +kernel
theorem dL_law_8 : decode cL_law 8 = .ok (.new 10, 3) := by decide +kernel
theorem dL_law_11 : decode cL_law 11 = .ok (.dup, 1) := by decide +kernel
theorem dL_law_12 : decode cL_law 12 = .ok (.invokespecial 12, 3) := by decide +kernel
theorem dL_law_15 : decode cL_law 15 = .ok (.astore_n 2, 1) := by decide +kernel
theorem dL_law_16 : decode cL_law 16 = .ok (.iconst 0, 1) := by decide +kernel
theorem dL_law_17 : decode cL_law 17 = .ok (.istore_n 3, 1) := by decide +kernel
theorem dL_law_18 : decode cL_law 18 = .ok (.iload_n 3, 1) := by decide +kernel
theorem dL_law_19 : decode cL_law 19 = .ok (.aload_n 0, 1) := by decide +kernel
theorem dL_law_20 : decode cL_law 20 = .ok (.arraylength, 1) := by decide +kernel
theorem dL_law_21 : decode cL_law 21 = .ok (.bipush 6, 2) := by decide +kernel
theorem dL_law_23 : decode cL_law 23 = .ok (.isub, 1) := by decide +kernel
theorem dL_law_24 : decode cL_law 24 = .ok (.if_icmp .gt 1093, 3) := by decide +kernel
theorem dL_law_27 : decode cL_law 27 = .ok (.aload_n 0, 1) := by decide +kernel
theorem dL_law_28 : decode cL_law 28 = .ok (.iload_n 3, 1) := by decide +kernel
theorem dL_law_29 : decode cL_law 29 = .ok (.iaload, 1) := by decide +kernel
theorem dL_law_30 : decode cL_law 30 = .ok (.bipush 31, 2) := by decide +kernel
theorem dL_law_32 : decode cL_law 32 = .ok (.iand, 1) := by decide +kernel
theorem dL_law_33 : decode cL_law 33 = .ok (.tableswitch 1078 0 28 #[131, 174, 217, 280, 303, 366, 379, 392, 425, 478, 511, 544, 577, 590, 623, 676, 719, 752, 795, 838, 861, 884, 907, 930, 953, 986, 1019, 1042, 1065], 131) := by decide +kernel
theorem dL_law_164 : decode cL_law 164 = .ok (.aload_n 1, 1) := by decide +kernel
theorem dL_law_165 : decode cL_law 165 = .ok (.aload_n 0, 1) := by decide +kernel
theorem dL_law_166 : decode cL_law 166 = .ok (.iload_n 3, 1) := by decide +kernel
theorem dL_law_167 : decode cL_law 167 = .ok (.iconst 1, 1) := by decide +kernel
theorem dL_law_168 : decode cL_law 168 = .ok (.iadd, 1) := by decide +kernel
theorem dL_law_169 : decode cL_law 169 = .ok (.iaload, 1) := by decide +kernel
theorem dL_law_170 : decode cL_law 170 = .ok (.aload_n 0, 1) := by decide +kernel
theorem dL_law_171 : decode cL_law 171 = .ok (.iload_n 3, 1) := by decide +kernel
theorem dL_law_172 : decode cL_law 172 = .ok (.iconst 2, 1) := by decide +kernel
theorem dL_law_173 : decode cL_law 173 = .ok (.iadd, 1) := by decide +kernel
theorem dL_law_174 : decode cL_law 174 = .ok (.iaload, 1) := by decide +kernel
theorem dL_law_175 : decode cL_law 175 = .ok (.aload_n 0, 1) := by decide +kernel
theorem dL_law_176 : decode cL_law 176 = .ok (.iload_n 3, 1) := by decide +kernel
theorem dL_law_177 : decode cL_law 177 = .ok (.iconst 3, 1) := by decide +kernel
theorem dL_law_178 : decode cL_law 178 = .ok (.iadd, 1) := by decide +kernel
theorem dL_law_179 : decode cL_law 179 = .ok (.iaload, 1) := by decide +kernel
theorem dL_law_180 : decode cL_law 180 = .ok (.invokevirtual 13, 3) := by decide +kernel
theorem dL_law_183 : decode cL_law 183 = .ok (.aload_n 2, 1) := by decide +kernel
theorem dL_law_184 : decode cL_law 184 = .ok (.aload_n 0, 1) := by decide +kernel
theorem dL_law_185 : decode cL_law 185 = .ok (.iload_n 3, 1) := by decide +kernel
theorem dL_law_186 : decode cL_law 186 = .ok (.iconst 1, 1) := by decide +kernel
theorem dL_law_187 : decode cL_law 187 = .ok (.iadd, 1) := by decide +kernel
theorem dL_law_188 : decode cL_law 188 = .ok (.iaload, 1) := by decide +kernel
theorem dL_law_189 : decode cL_law 189 = .ok (.aload_n 0, 1) := by decide +kernel
theorem dL_law_190 : decode cL_law 190 = .ok (.iload_n 3, 1) := by decide +kernel
theorem dL_law_191 : decode cL_law 191 = .ok (.iconst 2, 1) := by decide +kernel
theorem dL_law_192 : decode cL_law 192 = .ok (.iadd, 1) := by decide +kernel
theorem dL_law_193 : decode cL_law 193 = .ok (.iaload, 1) := by decide +kernel
theorem dL_law_194 : decode cL_law 194 = .ok (.aload_n 0, 1) := by decide +kernel
theorem dL_law_195 : decode cL_law 195 = .ok (.iload_n 3, 1) := by decide +kernel
theorem dL_law_196 : decode cL_law 196 = .ok (.iconst 3, 1) := by decide +kernel
theorem dL_law_197 : decode cL_law 197 = .ok (.iadd, 1) := by decide +kernel
theorem dL_law_198 : decode cL_law 198 = .ok (.iaload, 1) := by decide +kernel
theorem dL_law_199 : decode cL_law 199 = .ok (.invokevirtual 17, 3) := by decide +kernel
theorem dL_law_202 : decode cL_law 202 = .ok (.if_icmp .eq 909, 3) := by decide +kernel
theorem dL_law_205 : decode cL_law 205 = .ok (.iconst 0, 1) := by decide +kernel
theorem dL_law_206 : decode cL_law 206 = .ok (.ireturn, 1) := by decide +kernel
theorem dL_law_207 : decode cL_law 207 = .ok (.aload_n 1, 1) := by decide +kernel
theorem dL_law_208 : decode cL_law 208 = .ok (.aload_n 0, 1) := by decide +kernel
theorem dL_law_209 : decode cL_law 209 = .ok (.iload_n 3, 1) := by decide +kernel
theorem dL_law_210 : decode cL_law 210 = .ok (.iconst 1, 1) := by decide +kernel
theorem dL_law_211 : decode cL_law 211 = .ok (.iadd, 1) := by decide +kernel
theorem dL_law_212 : decode cL_law 212 = .ok (.iaload, 1) := by decide +kernel
theorem dL_law_213 : decode cL_law 213 = .ok (.aload_n 0, 1) := by decide +kernel
theorem dL_law_214 : decode cL_law 214 = .ok (.iload_n 3, 1) := by decide +kernel
theorem dL_law_215 : decode cL_law 215 = .ok (.iconst 2, 1) := by decide +kernel
theorem dL_law_216 : decode cL_law 216 = .ok (.iadd, 1) := by decide +kernel
theorem dL_law_217 : decode cL_law 217 = .ok (.iaload, 1) := by decide +kernel
theorem dL_law_218 : decode cL_law 218 = .ok (.aload_n 0, 1) := by decide +kernel
theorem dL_law_219 : decode cL_law 219 = .ok (.iload_n 3, 1) := by decide +kernel
theorem dL_law_220 : decode cL_law 220 = .ok (.iconst 3, 1) := by decide +kernel
theorem dL_law_221 : decode cL_law 221 = .ok (.iadd, 1) := by decide +kernel
theorem dL_law_222 : decode cL_law 222 = .ok (.iaload, 1) := by decide +kernel
theorem dL_law_223 : decode cL_law 223 = .ok (.invokevirtual 18, 3) := by decide +kernel
theorem dL_law_226 : decode cL_law 226 = .ok (.aload_n 2, 1) := by decide +kernel
theorem dL_law_227 : decode cL_law 227 = .ok (.aload_n 0, 1) := by decide +kernel
theorem dL_law_228 : decode cL_law 228 = .ok (.iload_n 3, 1) := by decide +kernel
theorem dL_law_229 : decode cL_law 229 = .ok (.iconst 1, 1) := by decide +kernel
theorem dL_law_230 : decode cL_law 230 = .ok (.iadd, 1) := by decide +kernel
theorem dL_law_231 : decode cL_law 231 = .ok (.iaload, 1) := by decide +kernel
theorem dL_law_232 : decode cL_law 232 = .ok (.aload_n 0, 1) := by decide +kernel
theorem dL_law_233 : decode cL_law 233 = .ok (.iload_n 3, 1) := by decide +kernel
theorem dL_law_234 : decode cL_law 234 = .ok (.iconst 2, 1) := by decide +kernel
theorem dL_law_235 : decode cL_law 235 = .ok (.iadd, 1) := by decide +kernel
theorem dL_law_236 : decode cL_law 236 = .ok (.iaload, 1) := by decide +kernel
theorem dL_law_237 : decode cL_law 237 = .ok (.aload_n 0, 1) := by decide +kernel
theorem dL_law_238 : decode cL_law 238 = .ok (.iload_n 3, 1) := by decide +kernel
theorem dL_law_239 : decode cL_law 239 = .ok (.iconst 3, 1) := by decide +kernel
theorem dL_law_240 : decode cL_law 240 = .ok (.iadd, 1) := by decide +kernel
theorem dL_law_241 : decode cL_law 241 = .ok (.iaload, 1) := by decide +kernel
theorem dL_law_242 : decode cL_law 242 = .ok (.invokevirtual 21, 3) := by decide +kernel
theorem dL_law_245 : decode cL_law 245 = .ok (.if_icmp .eq 866, 3) := by decide +kernel
theorem dL_law_248 : decode cL_law 248 = .ok (.iconst 0, 1) := by decide +kernel
theorem dL_law_249 : decode cL_law 249 = .ok (.ireturn, 1) := by decide +kernel
theorem dL_law_250 : decode cL_law 250 = .ok (.aload_n 1, 1) := by decide +kernel
theorem dL_law_251 : decode cL_law 251 = .ok (.aload_n 0, 1) := by decide +kernel
theorem dL_law_252 : decode cL_law 252 = .ok (.iload_n 3, 1) := by decide +kernel
theorem dL_law_253 : decode cL_law 253 = .ok (.iconst 1, 1) := by decide +kernel
theorem dL_law_254 : decode cL_law 254 = .ok (.iadd, 1) := by decide +kernel
theorem dL_law_255 : decode cL_law 255 = .ok (.iaload, 1) := by decide +kernel
theorem dL_law_256 : decode cL_law 256 = .ok (.aload_n 0, 1) := by decide +kernel
theorem dL_law_257 : decode cL_law 257 = .ok (.iload_n 3, 1) := by decide +kernel
theorem dL_law_258 : decode cL_law 258 = .ok (.iconst 2, 1) := by decide +kernel
theorem dL_law_259 : decode cL_law 259 = .ok (.iadd, 1) := by decide +kernel
theorem dL_law_260 : decode cL_law 260 = .ok (.iaload, 1) := by decide +kernel
theorem dL_law_261 : decode cL_law 261 = .ok (.aload_n 0, 1) := by decide +kernel
theorem dL_law_262 : decode cL_law 262 = .ok (.iload_n 3, 1) := by decide +kernel
theorem dL_law_263 : decode cL_law 263 = .ok (.iconst 3, 1) := by decide +kernel
theorem dL_law_264 : decode cL_law 264 = .ok (.iadd, 1) := by decide +kernel
theorem dL_law_265 : decode cL_law 265 = .ok (.iaload, 1) := by decide +kernel
theorem dL_law_266 : decode cL_law 266 = .ok (.aload_n 0, 1) := by decide +kernel
theorem dL_law_267 : decode cL_law 267 = .ok (.iload_n 3, 1) := by decide +kernel
theorem dL_law_268 : decode cL_law 268 = .ok (.iconst 4, 1) := by decide +kernel
theorem dL_law_269 : decode cL_law 269 = .ok (.iadd, 1) := by decide +kernel
theorem dL_law_270 : decode cL_law 270 = .ok (.iaload, 1) := by decide +kernel
theorem dL_law_271 : decode cL_law 271 = .ok (.aload_n 0, 1) := by decide +kernel
theorem dL_law_272 : decode cL_law 272 = .ok (.iload_n 3, 1) := by decide +kernel
theorem dL_law_273 : decode cL_law 273 = .ok (.iconst 5, 1) := by decide +kernel
theorem dL_law_274 : decode cL_law 274 = .ok (.iadd, 1) := by decide +kernel
theorem dL_law_275 : decode cL_law 275 = .ok (.iaload, 1) := by decide +kernel
theorem dL_law_276 : decode cL_law 276 = .ok (.invokevirtual 22, 3) := by decide +kernel
theorem dL_law_279 : decode cL_law 279 = .ok (.aload_n 2, 1) := by decide +kernel
theorem dL_law_280 : decode cL_law 280 = .ok (.aload_n 0, 1) := by decide +kernel
theorem dL_law_281 : decode cL_law 281 = .ok (.iload_n 3, 1) := by decide +kernel
theorem dL_law_282 : decode cL_law 282 = .ok (.iconst 1, 1) := by decide +kernel
theorem dL_law_283 : decode cL_law 283 = .ok (.iadd, 1) := by decide +kernel
theorem dL_law_284 : decode cL_law 284 = .ok (.iaload, 1) := by decide +kernel
theorem dL_law_285 : decode cL_law 285 = .ok (.aload_n 0, 1) := by decide +kernel
theorem dL_law_286 : decode cL_law 286 = .ok (.iload_n 3, 1) := by decide +kernel
theorem dL_law_287 : decode cL_law 287 = .ok (.iconst 2, 1) := by decide +kernel
theorem dL_law_288 : decode cL_law 288 = .ok (.iadd, 1) := by decide +kernel
theorem dL_law_289 : decode cL_law 289 = .ok (.iaload, 1) := by decide +kernel
theorem dL_law_290 : decode cL_law 290 = .ok (.aload_n 0, 1) := by decide +kernel
theorem dL_law_291 : decode cL_law 291 = .ok (.iload_n 3, 1) := by decide +kernel
theorem dL_law_292 : decode cL_law 292 = .ok (.iconst 3, 1) := by decide +kernel
theorem dL_law_293 : decode cL_law 293 = .ok (.iadd, 1) := by decide +kernel
theorem dL_law_294 : decode cL_law 294 = .ok (.iaload, 1) := by decide +kernel
theorem dL_law_295 : decode cL_law 295 = .ok (.aload_n 0, 1) := by decide +kernel
theorem dL_law_296 : decode cL_law 296 = .ok (.iload_n 3, 1) := by decide +kernel
theorem dL_law_297 : decode cL_law 297 = .ok (.iconst 4, 1) := by decide +kernel
theorem dL_law_298 : decode cL_law 298 = .ok (.iadd, 1) := by decide +kernel
theorem dL_law_299 : decode cL_law 299 = .ok (.iaload, 1) := by decide +kernel
theorem dL_law_300 : decode cL_law 300 = .ok (.aload_n 0, 1) := by decide +kernel
theorem dL_law_301 : decode cL_law 301 = .ok (.iload_n 3, 1) := by decide +kernel
theorem dL_law_302 : decode cL_law 302 = .ok (.iconst 5, 1) := by decide +kernel
theorem dL_law_303 : decode cL_law 303 = .ok (.iadd, 1) := by decide +kernel
theorem dL_law_304 : decode cL_law 304 = .ok (.iaload, 1) := by decide +kernel
theorem dL_law_305 : decode cL_law 305 = .ok (.invokevirtual 26, 3) := by decide +kernel
theorem dL_law_308 : decode cL_law 308 = .ok (.if_icmp .eq 803, 3) := by decide +kernel
theorem dL_law_311 : decode cL_law 311 = .ok (.iconst 0, 1) := by decide +kernel
theorem dL_law_312 : decode cL_law 312 = .ok (.ireturn, 1) := by decide +kernel
theorem dL_law_313 : decode cL_law 313 = .ok (.aload_n 1, 1) := by decide +kernel
theorem dL_law_314 : decode cL_law 314 = .ok (.aload_n 0, 1) := by decide +kernel
theorem dL_law_315 : decode cL_law 315 = .ok (.iload_n 3, 1) := by decide +kernel
theorem dL_law_316 : decode cL_law 316 = .ok (.iconst 1, 1) := by decide +kernel
theorem dL_law_317 : decode cL_law 317 = .ok (.iadd, 1) := by decide +kernel
theorem dL_law_318 : decode cL_law 318 = .ok (.iaload, 1) := by decide +kernel
theorem dL_law_319 : decode cL_law 319 = .ok (.invokevirtual 27, 3) := by decide +kernel
theorem dL_law_322 : decode cL_law 322 = .ok (.aload_n 2, 1) := by decide +kernel
theorem dL_law_323 : decode cL_law 323 = .ok (.aload_n 0, 1) := by decide +kernel
theorem dL_law_324 : decode cL_law 324 = .ok (.iload_n 3, 1) := by decide +kernel
theorem dL_law_325 : decode cL_law 325 = .ok (.iconst 1, 1) := by decide +kernel
theorem dL_law_326 : decode cL_law 326 = .ok (.iadd, 1) := by decide +kernel
theorem dL_law_327 : decode cL_law 327 = .ok (.iaload, 1) := by decide +kernel
theorem dL_law_328 : decode cL_law 328 = .ok (.invokevirtual 31, 3) := by decide +kernel
theorem dL_law_331 : decode cL_law 331 = .ok (.if_icmp .eq 780, 3) := by decide +kernel
theorem dL_law_334 : decode cL_law 334 = .ok (.iconst 0, 1) := by decide +kernel
theorem dL_law_335 : decode cL_law 335 = .ok (.ireturn, 1) := by decide +kernel
theorem dL_law_336 : decode cL_law 336 = .ok (.aload_n 1, 1) := by decide +kernel
theorem dL_law_337 : decode cL_law 337 = .ok (.aload_n 0, 1) := by decide +kernel
theorem dL_law_338 : decode cL_law 338 = .ok (.iload_n 3, 1) := by decide +kernel
theorem dL_law_339 : decode cL_law 339 = .ok (.iconst 1, 1) := by decide +kernel
theorem dL_law_340 : decode cL_law 340 = .ok (.iadd, 1) := by decide +kernel
theorem dL_law_341 : decode cL_law 341 = .ok (.iaload, 1) := by decide +kernel
theorem dL_law_342 : decode cL_law 342 = .ok (.i2l, 1) := by decide +kernel
theorem dL_law_343 : decode cL_law 343 = .ok (.bipush 32, 2) := by decide +kernel
theorem dL_law_345 : decode cL_law 345 = .ok (.lshl, 1) := by decide +kernel
theorem dL_law_346 : decode cL_law 346 = .ok (.aload_n 0, 1) := by decide +kernel
theorem dL_law_347 : decode cL_law 347 = .ok (.iload_n 3, 1) := by decide +kernel
theorem dL_law_348 : decode cL_law 348 = .ok (.iconst 2, 1) := by decide +kernel
theorem dL_law_349 : decode cL_law 349 = .ok (.iadd, 1) := by decide +kernel
theorem dL_law_350 : decode cL_law 350 = .ok (.iaload, 1) := by decide +kernel
theorem dL_law_351 : decode cL_law 351 = .ok (.i2l, 1) := by decide +kernel
theorem dL_law_352 : decode cL_law 352 = .ok (.ldc2_w 32, 3) := by decide +kernel
theorem dL_law_355 : decode cL_law 355 = .ok (.land, 1) := by decide +kernel
theorem dL_law_356 : decode cL_law 356 = .ok (.lor, 1) := by decide +kernel
theorem dL_law_357 : decode cL_law 357 = .ok (.aload_n 0, 1) := by decide +kernel
theorem dL_law_358 : decode cL_law 358 = .ok (.iload_n 3, 1) := by decide +kernel
theorem dL_law_359 : decode cL_law 359 = .ok (.iconst 3, 1) := by decide +kernel
theorem dL_law_360 : decode cL_law 360 = .ok (.iadd, 1) := by decide +kernel
theorem dL_law_361 : decode cL_law 361 = .ok (.iaload, 1) := by decide +kernel
theorem dL_law_362 : decode cL_law 362 = .ok (.invokevirtual 34, 3) := by decide +kernel
theorem dL_law_365 : decode cL_law 365 = .ok (.aload_n 2, 1) := by decide +kernel
theorem dL_law_366 : decode cL_law 366 = .ok (.aload_n 0, 1) := by decide +kernel
theorem dL_law_367 : decode cL_law 367 = .ok (.iload_n 3, 1) := by decide +kernel
theorem dL_law_368 : decode cL_law 368 = .ok (.iconst 1, 1) := by decide +kernel
theorem dL_law_369 : decode cL_law 369 = .ok (.iadd, 1) := by decide +kernel
theorem dL_law_370 : decode cL_law 370 = .ok (.iaload, 1) := by decide +kernel
theorem dL_law_371 : decode cL_law 371 = .ok (.i2l, 1) := by decide +kernel
theorem dL_law_372 : decode cL_law 372 = .ok (.bipush 32, 2) := by decide +kernel
theorem dL_law_374 : decode cL_law 374 = .ok (.lshl, 1) := by decide +kernel
theorem dL_law_375 : decode cL_law 375 = .ok (.aload_n 0, 1) := by decide +kernel
theorem dL_law_376 : decode cL_law 376 = .ok (.iload_n 3, 1) := by decide +kernel
theorem dL_law_377 : decode cL_law 377 = .ok (.iconst 2, 1) := by decide +kernel
theorem dL_law_378 : decode cL_law 378 = .ok (.iadd, 1) := by decide +kernel
theorem dL_law_379 : decode cL_law 379 = .ok (.iaload, 1) := by decide +kernel
theorem dL_law_380 : decode cL_law 380 = .ok (.i2l, 1) := by decide +kernel
theorem dL_law_381 : decode cL_law 381 = .ok (.ldc2_w 32, 3) := by decide +kernel
theorem dL_law_384 : decode cL_law 384 = .ok (.land, 1) := by decide +kernel
theorem dL_law_385 : decode cL_law 385 = .ok (.lor, 1) := by decide +kernel
theorem dL_law_386 : decode cL_law 386 = .ok (.aload_n 0, 1) := by decide +kernel
theorem dL_law_387 : decode cL_law 387 = .ok (.iload_n 3, 1) := by decide +kernel
theorem dL_law_388 : decode cL_law 388 = .ok (.iconst 3, 1) := by decide +kernel
theorem dL_law_389 : decode cL_law 389 = .ok (.iadd, 1) := by decide +kernel
theorem dL_law_390 : decode cL_law 390 = .ok (.iaload, 1) := by decide +kernel
theorem dL_law_391 : decode cL_law 391 = .ok (.invokevirtual 38, 3) := by decide +kernel
theorem dL_law_394 : decode cL_law 394 = .ok (.if_icmp .eq 717, 3) := by decide +kernel
theorem dL_law_397 : decode cL_law 397 = .ok (.iconst 0, 1) := by decide +kernel
theorem dL_law_398 : decode cL_law 398 = .ok (.ireturn, 1) := by decide +kernel
theorem dL_law_399 : decode cL_law 399 = .ok (.aload_n 1, 1) := by decide +kernel
theorem dL_law_400 : decode cL_law 400 = .ok (.invokevirtual 39, 3) := by decide +kernel
theorem dL_law_403 : decode cL_law 403 = .ok (.aload_n 2, 1) := by decide +kernel
theorem dL_law_404 : decode cL_law 404 = .ok (.invokevirtual 43, 3) := by decide +kernel
theorem dL_law_407 : decode cL_law 407 = .ok (.if_icmp .eq 704, 3) := by decide +kernel
theorem dL_law_410 : decode cL_law 410 = .ok (.iconst 0, 1) := by decide +kernel
theorem dL_law_411 : decode cL_law 411 = .ok (.ireturn, 1) := by decide +kernel
theorem dL_law_412 : decode cL_law 412 = .ok (.aload_n 1, 1) := by decide +kernel
theorem dL_law_413 : decode cL_law 413 = .ok (.invokevirtual 44, 3) := by decide +kernel
theorem dL_law_416 : decode cL_law 416 = .ok (.aload_n 2, 1) := by decide +kernel
theorem dL_law_417 : decode cL_law 417 = .ok (.invokevirtual 47, 3) := by decide +kernel
theorem dL_law_420 : decode cL_law 420 = .ok (.if_icmp .eq 691, 3) := by decide +kernel
theorem dL_law_423 : decode cL_law 423 = .ok (.iconst 0, 1) := by decide +kernel
theorem dL_law_424 : decode cL_law 424 = .ok (.ireturn, 1) := by decide +kernel
theorem dL_law_425 : decode cL_law 425 = .ok (.aload_n 1, 1) := by decide +kernel
theorem dL_law_426 : decode cL_law 426 = .ok (.aload_n 0, 1) := by decide +kernel
theorem dL_law_427 : decode cL_law 427 = .ok (.iload_n 3, 1) := by decide +kernel
theorem dL_law_428 : decode cL_law 428 = .ok (.iconst 1, 1) := by decide +kernel
theorem dL_law_429 : decode cL_law 429 = .ok (.iadd, 1) := by decide +kernel
theorem dL_law_430 : decode cL_law 430 = .ok (.iaload, 1) := by decide +kernel
theorem dL_law_431 : decode cL_law 431 = .ok (.aload_n 0, 1) := by decide +kernel
theorem dL_law_432 : decode cL_law 432 = .ok (.iload_n 3, 1) := by decide +kernel
theorem dL_law_433 : decode cL_law 433 = .ok (.iconst 2, 1) := by decide +kernel
theorem dL_law_434 : decode cL_law 434 = .ok (.iadd, 1) := by decide +kernel
theorem dL_law_435 : decode cL_law 435 = .ok (.iaload, 1) := by decide +kernel
theorem dL_law_436 : decode cL_law 436 = .ok (.invokevirtual 48, 3) := by decide +kernel
theorem dL_law_439 : decode cL_law 439 = .ok (.aload_n 2, 1) := by decide +kernel
theorem dL_law_440 : decode cL_law 440 = .ok (.aload_n 0, 1) := by decide +kernel
theorem dL_law_441 : decode cL_law 441 = .ok (.iload_n 3, 1) := by decide +kernel
theorem dL_law_442 : decode cL_law 442 = .ok (.iconst 1, 1) := by decide +kernel
theorem dL_law_443 : decode cL_law 443 = .ok (.iadd, 1) := by decide +kernel
theorem dL_law_444 : decode cL_law 444 = .ok (.iaload, 1) := by decide +kernel
theorem dL_law_445 : decode cL_law 445 = .ok (.aload_n 0, 1) := by decide +kernel
theorem dL_law_446 : decode cL_law 446 = .ok (.iload_n 3, 1) := by decide +kernel
theorem dL_law_447 : decode cL_law 447 = .ok (.iconst 2, 1) := by decide +kernel
theorem dL_law_448 : decode cL_law 448 = .ok (.iadd, 1) := by decide +kernel
theorem dL_law_449 : decode cL_law 449 = .ok (.iaload, 1) := by decide +kernel
theorem dL_law_450 : decode cL_law 450 = .ok (.invokevirtual 52, 3) := by decide +kernel
theorem dL_law_453 : decode cL_law 453 = .ok (.if_icmp .eq 658, 3) := by decide +kernel
theorem dL_law_456 : decode cL_law 456 = .ok (.iconst 0, 1) := by decide +kernel
theorem dL_law_457 : decode cL_law 457 = .ok (.ireturn, 1) := by decide +kernel
theorem dL_law_458 : decode cL_law 458 = .ok (.aload_n 1, 1) := by decide +kernel
theorem dL_law_459 : decode cL_law 459 = .ok (.aload_n 0, 1) := by decide +kernel
theorem dL_law_460 : decode cL_law 460 = .ok (.iload_n 3, 1) := by decide +kernel
theorem dL_law_461 : decode cL_law 461 = .ok (.iconst 1, 1) := by decide +kernel
theorem dL_law_462 : decode cL_law 462 = .ok (.iadd, 1) := by decide +kernel
theorem dL_law_463 : decode cL_law 463 = .ok (.iaload, 1) := by decide +kernel
theorem dL_law_464 : decode cL_law 464 = .ok (.aload_n 0, 1) := by decide +kernel
theorem dL_law_465 : decode cL_law 465 = .ok (.iload_n 3, 1) := by decide +kernel
theorem dL_law_466 : decode cL_law 466 = .ok (.iconst 2, 1) := by decide +kernel
theorem dL_law_467 : decode cL_law 467 = .ok (.iadd, 1) := by decide +kernel
theorem dL_law_468 : decode cL_law 468 = .ok (.iaload, 1) := by decide +kernel
theorem dL_law_469 : decode cL_law 469 = .ok (.aload_n 0, 1) := by decide +kernel
theorem dL_law_470 : decode cL_law 470 = .ok (.iload_n 3, 1) := by decide +kernel
theorem dL_law_471 : decode cL_law 471 = .ok (.iconst 3, 1) := by decide +kernel
theorem dL_law_472 : decode cL_law 472 = .ok (.iadd, 1) := by decide +kernel
theorem dL_law_473 : decode cL_law 473 = .ok (.iaload, 1) := by decide +kernel
theorem dL_law_474 : decode cL_law 474 = .ok (.aload_n 0, 1) := by decide +kernel
theorem dL_law_475 : decode cL_law 475 = .ok (.iload_n 3, 1) := by decide +kernel
theorem dL_law_476 : decode cL_law 476 = .ok (.iconst 4, 1) := by decide +kernel
theorem dL_law_477 : decode cL_law 477 = .ok (.iadd, 1) := by decide +kernel
theorem dL_law_478 : decode cL_law 478 = .ok (.iaload, 1) := by decide +kernel
theorem dL_law_479 : decode cL_law 479 = .ok (.invokevirtual 53, 3) := by decide +kernel
theorem dL_law_482 : decode cL_law 482 = .ok (.aload_n 2, 1) := by decide +kernel
theorem dL_law_483 : decode cL_law 483 = .ok (.aload_n 0, 1) := by decide +kernel
theorem dL_law_484 : decode cL_law 484 = .ok (.iload_n 3, 1) := by decide +kernel
theorem dL_law_485 : decode cL_law 485 = .ok (.iconst 1, 1) := by decide +kernel
theorem dL_law_486 : decode cL_law 486 = .ok (.iadd, 1) := by decide +kernel
theorem dL_law_487 : decode cL_law 487 = .ok (.iaload, 1) := by decide +kernel
theorem dL_law_488 : decode cL_law 488 = .ok (.aload_n 0, 1) := by decide +kernel
theorem dL_law_489 : decode cL_law 489 = .ok (.iload_n 3, 1) := by decide +kernel
theorem dL_law_490 : decode cL_law 490 = .ok (.iconst 2, 1) := by decide +kernel
theorem dL_law_491 : decode cL_law 491 = .ok (.iadd, 1) := by decide +kernel
theorem dL_law_492 : decode cL_law 492 = .ok (.iaload, 1) := by decide +kernel
theorem dL_law_493 : decode cL_law 493 = .ok (.aload_n 0, 1) := by decide +kernel
theorem dL_law_494 : decode cL_law 494 = .ok (.iload_n 3, 1) := by decide +kernel
theorem dL_law_495 : decode cL_law 495 = .ok (.iconst 3, 1) := by decide +kernel
theorem dL_law_496 : decode cL_law 496 = .ok (.iadd, 1) := by decide +kernel
theorem dL_law_497 : decode cL_law 497 = .ok (.iaload, 1) := by decide +kernel
theorem dL_law_498 : decode cL_law 498 = .ok (.aload_n 0, 1) := by decide +kernel
theorem dL_law_499 : decode cL_law 499 = .ok (.iload_n 3, 1) := by decide +kernel
theorem dL_law_500 : decode cL_law 500 = .ok (.iconst 4, 1) := by decide +kernel
theorem dL_law_501 : decode cL_law 501 = .ok (.iadd, 1) := by decide +kernel
theorem dL_law_502 : decode cL_law 502 = .ok (.iaload, 1) := by decide +kernel
theorem dL_law_503 : decode cL_law 503 = .ok (.invokevirtual 57, 3) := by decide +kernel
theorem dL_law_506 : decode cL_law 506 = .ok (.if_icmp .eq 605, 3) := by decide +kernel
theorem dL_law_509 : decode cL_law 509 = .ok (.iconst 0, 1) := by decide +kernel
theorem dL_law_510 : decode cL_law 510 = .ok (.ireturn, 1) := by decide +kernel
theorem dL_law_511 : decode cL_law 511 = .ok (.aload_n 1, 1) := by decide +kernel
theorem dL_law_512 : decode cL_law 512 = .ok (.aload_n 0, 1) := by decide +kernel
theorem dL_law_513 : decode cL_law 513 = .ok (.iload_n 3, 1) := by decide +kernel
theorem dL_law_514 : decode cL_law 514 = .ok (.iconst 1, 1) := by decide +kernel
theorem dL_law_515 : decode cL_law 515 = .ok (.iadd, 1) := by decide +kernel
theorem dL_law_516 : decode cL_law 516 = .ok (.iaload, 1) := by decide +kernel
theorem dL_law_517 : decode cL_law 517 = .ok (.aload_n 0, 1) := by decide +kernel
theorem dL_law_518 : decode cL_law 518 = .ok (.iload_n 3, 1) := by decide +kernel
theorem dL_law_519 : decode cL_law 519 = .ok (.iconst 2, 1) := by decide +kernel
theorem dL_law_520 : decode cL_law 520 = .ok (.iadd, 1) := by decide +kernel
theorem dL_law_521 : decode cL_law 521 = .ok (.iaload, 1) := by decide +kernel
theorem dL_law_522 : decode cL_law 522 = .ok (.invokevirtual 58, 3) := by decide +kernel
theorem dL_law_525 : decode cL_law 525 = .ok (.aload_n 2, 1) := by decide +kernel
theorem dL_law_526 : decode cL_law 526 = .ok (.aload_n 0, 1) := by decide +kernel
theorem dL_law_527 : decode cL_law 527 = .ok (.iload_n 3, 1) := by decide +kernel
theorem dL_law_528 : decode cL_law 528 = .ok (.iconst 1, 1) := by decide +kernel
theorem dL_law_529 : decode cL_law 529 = .ok (.iadd, 1) := by decide +kernel
theorem dL_law_530 : decode cL_law 530 = .ok (.iaload, 1) := by decide +kernel
theorem dL_law_531 : decode cL_law 531 = .ok (.aload_n 0, 1) := by decide +kernel
theorem dL_law_532 : decode cL_law 532 = .ok (.iload_n 3, 1) := by decide +kernel
theorem dL_law_533 : decode cL_law 533 = .ok (.iconst 2, 1) := by decide +kernel
theorem dL_law_534 : decode cL_law 534 = .ok (.iadd, 1) := by decide +kernel
theorem dL_law_535 : decode cL_law 535 = .ok (.iaload, 1) := by decide +kernel
theorem dL_law_536 : decode cL_law 536 = .ok (.invokevirtual 61, 3) := by decide +kernel
theorem dL_law_539 : decode cL_law 539 = .ok (.if_icmp .eq 572, 3) := by decide +kernel
theorem dL_law_542 : decode cL_law 542 = .ok (.iconst 0, 1) := by decide +kernel
theorem dL_law_543 : decode cL_law 543 = .ok (.ireturn, 1) := by decide +kernel
theorem dL_law_544 : decode cL_law 544 = .ok (.aload_n 1, 1) := by decide +kernel
theorem dL_law_545 : decode cL_law 545 = .ok (.aload_n 0, 1) := by decide +kernel
theorem dL_law_546 : decode cL_law 546 = .ok (.iload_n 3, 1) := by decide +kernel
theorem dL_law_547 : decode cL_law 547 = .ok (.iconst 1, 1) := by decide +kernel
theorem dL_law_548 : decode cL_law 548 = .ok (.iadd, 1) := by decide +kernel
theorem dL_law_549 : decode cL_law 549 = .ok (.iaload, 1) := by decide +kernel
theorem dL_law_550 : decode cL_law 550 = .ok (.aload_n 0, 1) := by decide +kernel
theorem dL_law_551 : decode cL_law 551 = .ok (.iload_n 3, 1) := by decide +kernel
theorem dL_law_552 : decode cL_law 552 = .ok (.iconst 2, 1) := by decide +kernel
theorem dL_law_553 : decode cL_law 553 = .ok (.iadd, 1) := by decide +kernel
theorem dL_law_554 : decode cL_law 554 = .ok (.iaload, 1) := by decide +kernel
theorem dL_law_555 : decode cL_law 555 = .ok (.invokevirtual 62, 3) := by decide +kernel
theorem dL_law_558 : decode cL_law 558 = .ok (.aload_n 2, 1) := by decide +kernel
theorem dL_law_559 : decode cL_law 559 = .ok (.aload_n 0, 1) := by decide +kernel
theorem dL_law_560 : decode cL_law 560 = .ok (.iload_n 3, 1) := by decide +kernel
theorem dL_law_561 : decode cL_law 561 = .ok (.iconst 1, 1) := by decide +kernel
theorem dL_law_562 : decode cL_law 562 = .ok (.iadd, 1) := by decide +kernel
theorem dL_law_563 : decode cL_law 563 = .ok (.iaload, 1) := by decide +kernel
theorem dL_law_564 : decode cL_law 564 = .ok (.aload_n 0, 1) := by decide +kernel
theorem dL_law_565 : decode cL_law 565 = .ok (.iload_n 3, 1) := by decide +kernel
theorem dL_law_566 : decode cL_law 566 = .ok (.iconst 2, 1) := by decide +kernel
theorem dL_law_567 : decode cL_law 567 = .ok (.iadd, 1) := by decide +kernel
theorem dL_law_568 : decode cL_law 568 = .ok (.iaload, 1) := by decide +kernel
theorem dL_law_569 : decode cL_law 569 = .ok (.invokevirtual 65, 3) := by decide +kernel
theorem dL_law_572 : decode cL_law 572 = .ok (.if_icmp .eq 539, 3) := by decide +kernel
theorem dL_law_575 : decode cL_law 575 = .ok (.iconst 0, 1) := by decide +kernel
theorem dL_law_576 : decode cL_law 576 = .ok (.ireturn, 1) := by decide +kernel
theorem dL_law_577 : decode cL_law 577 = .ok (.aload_n 1, 1) := by decide +kernel
theorem dL_law_578 : decode cL_law 578 = .ok (.aload_n 0, 1) := by decide +kernel
theorem dL_law_579 : decode cL_law 579 = .ok (.iload_n 3, 1) := by decide +kernel
theorem dL_law_580 : decode cL_law 580 = .ok (.iconst 1, 1) := by decide +kernel
theorem dL_law_581 : decode cL_law 581 = .ok (.iadd, 1) := by decide +kernel
theorem dL_law_582 : decode cL_law 582 = .ok (.iaload, 1) := by decide +kernel
theorem dL_law_583 : decode cL_law 583 = .ok (.aload_n 0, 1) := by decide +kernel
theorem dL_law_584 : decode cL_law 584 = .ok (.iload_n 3, 1) := by decide +kernel
theorem dL_law_585 : decode cL_law 585 = .ok (.iconst 2, 1) := by decide +kernel
theorem dL_law_586 : decode cL_law 586 = .ok (.iadd, 1) := by decide +kernel
theorem dL_law_587 : decode cL_law 587 = .ok (.iaload, 1) := by decide +kernel
theorem dL_law_588 : decode cL_law 588 = .ok (.invokevirtual 66, 3) := by decide +kernel
theorem dL_law_591 : decode cL_law 591 = .ok (.aload_n 2, 1) := by decide +kernel
theorem dL_law_592 : decode cL_law 592 = .ok (.aload_n 0, 1) := by decide +kernel
theorem dL_law_593 : decode cL_law 593 = .ok (.iload_n 3, 1) := by decide +kernel
theorem dL_law_594 : decode cL_law 594 = .ok (.iconst 1, 1) := by decide +kernel
theorem dL_law_595 : decode cL_law 595 = .ok (.iadd, 1) := by decide +kernel
theorem dL_law_596 : decode cL_law 596 = .ok (.iaload, 1) := by decide +kernel
theorem dL_law_597 : decode cL_law 597 = .ok (.aload_n 0, 1) := by decide +kernel
theorem dL_law_598 : decode cL_law 598 = .ok (.iload_n 3, 1) := by decide +kernel
theorem dL_law_599 : decode cL_law 599 = .ok (.iconst 2, 1) := by decide +kernel
theorem dL_law_600 : decode cL_law 600 = .ok (.iadd, 1) := by decide +kernel
theorem dL_law_601 : decode cL_law 601 = .ok (.iaload, 1) := by decide +kernel
theorem dL_law_602 : decode cL_law 602 = .ok (.invokevirtual 69, 3) := by decide +kernel
theorem dL_law_605 : decode cL_law 605 = .ok (.if_icmp .eq 506, 3) := by decide +kernel
theorem dL_law_608 : decode cL_law 608 = .ok (.iconst 0, 1) := by decide +kernel
theorem dL_law_609 : decode cL_law 609 = .ok (.ireturn, 1) := by decide +kernel
theorem dL_law_610 : decode cL_law 610 = .ok (.aload_n 1, 1) := by decide +kernel
theorem dL_law_611 : decode cL_law 611 = .ok (.invokevirtual 70, 3) := by decide +kernel
theorem dL_law_614 : decode cL_law 614 = .ok (.aload_n 2, 1) := by decide +kernel
theorem dL_law_615 : decode cL_law 615 = .ok (.invokevirtual 73, 3) := by decide +kernel
theorem dL_law_618 : decode cL_law 618 = .ok (.if_icmp .eq 493, 3) := by decide +kernel
theorem dL_law_621 : decode cL_law 621 = .ok (.iconst 0, 1) := by decide +kernel
theorem dL_law_622 : decode cL_law 622 = .ok (.ireturn, 1) := by decide +kernel
theorem dL_law_623 : decode cL_law 623 = .ok (.aload_n 1, 1) := by decide +kernel
theorem dL_law_624 : decode cL_law 624 = .ok (.aload_n 0, 1) := by decide +kernel
theorem dL_law_625 : decode cL_law 625 = .ok (.iload_n 3, 1) := by decide +kernel
theorem dL_law_626 : decode cL_law 626 = .ok (.iconst 1, 1) := by decide +kernel
theorem dL_law_627 : decode cL_law 627 = .ok (.iadd, 1) := by decide +kernel
theorem dL_law_628 : decode cL_law 628 = .ok (.iaload, 1) := by decide +kernel
theorem dL_law_629 : decode cL_law 629 = .ok (.aload_n 0, 1) := by decide +kernel
theorem dL_law_630 : decode cL_law 630 = .ok (.iload_n 3, 1) := by decide +kernel
theorem dL_law_631 : decode cL_law 631 = .ok (.iconst 2, 1) := by decide +kernel
theorem dL_law_632 : decode cL_law 632 = .ok (.iadd, 1) := by decide +kernel
theorem dL_law_633 : decode cL_law 633 = .ok (.iaload, 1) := by decide +kernel
theorem dL_law_634 : decode cL_law 634 = .ok (.invokevirtual 74, 3) := by decide +kernel
theorem dL_law_637 : decode cL_law 637 = .ok (.aload_n 2, 1) := by decide +kernel
theorem dL_law_638 : decode cL_law 638 = .ok (.aload_n 0, 1) := by decide +kernel
theorem dL_law_639 : decode cL_law 639 = .ok (.iload_n 3, 1) := by decide +kernel
theorem dL_law_640 : decode cL_law 640 = .ok (.iconst 1, 1) := by decide +kernel
theorem dL_law_641 : decode cL_law 641 = .ok (.iadd, 1) := by decide +kernel
theorem dL_law_642 : decode cL_law 642 = .ok (.iaload, 1) := by decide +kernel
theorem dL_law_643 : decode cL_law 643 = .ok (.aload_n 0, 1) := by decide +kernel
theorem dL_law_644 : decode cL_law 644 = .ok (.iload_n 3, 1) := by decide +kernel
theorem dL_law_645 : decode cL_law 645 = .ok (.iconst 2, 1) := by decide +kernel
theorem dL_law_646 : decode cL_law 646 = .ok (.iadd, 1) := by decide +kernel
theorem dL_law_647 : decode cL_law 647 = .ok (.iaload, 1) := by decide +kernel
theorem dL_law_648 : decode cL_law 648 = .ok (.invokevirtual 77, 3) := by decide +kernel
theorem dL_law_651 : decode cL_law 651 = .ok (.if_icmp .eq 460, 3) := by decide +kernel
theorem dL_law_654 : decode cL_law 654 = .ok (.iconst 0, 1) := by decide +kernel
theorem dL_law_655 : decode cL_law 655 = .ok (.ireturn, 1) := by decide +kernel
theorem dL_law_656 : decode cL_law 656 = .ok (.aload_n 1, 1) := by decide +kernel
theorem dL_law_657 : decode cL_law 657 = .ok (.aload_n 0, 1) := by decide +kernel
theorem dL_law_658 : decode cL_law 658 = .ok (.iload_n 3, 1) := by decide +kernel
theorem dL_law_659 : decode cL_law 659 = .ok (.iconst 1, 1) := by decide +kernel
theorem dL_law_660 : decode cL_law 660 = .ok (.iadd, 1) := by decide +kernel
theorem dL_law_661 : decode cL_law 661 = .ok (.iaload, 1) := by decide +kernel
theorem dL_law_662 : decode cL_law 662 = .ok (.aload_n 0, 1) := by decide +kernel
theorem dL_law_663 : decode cL_law 663 = .ok (.iload_n 3, 1) := by decide +kernel
theorem dL_law_664 : decode cL_law 664 = .ok (.iconst 2, 1) := by decide +kernel
theorem dL_law_665 : decode cL_law 665 = .ok (.iadd, 1) := by decide +kernel
theorem dL_law_666 : decode cL_law 666 = .ok (.iaload, 1) := by decide +kernel
theorem dL_law_667 : decode cL_law 667 = .ok (.aload_n 0, 1) := by decide +kernel
theorem dL_law_668 : decode cL_law 668 = .ok (.iload_n 3, 1) := by decide +kernel
theorem dL_law_669 : decode cL_law 669 = .ok (.iconst 3, 1) := by decide +kernel
theorem dL_law_670 : decode cL_law 670 = .ok (.iadd, 1) := by decide +kernel
theorem dL_law_671 : decode cL_law 671 = .ok (.iaload, 1) := by decide +kernel
theorem dL_law_672 : decode cL_law 672 = .ok (.aload_n 0, 1) := by decide +kernel
theorem dL_law_673 : decode cL_law 673 = .ok (.iload_n 3, 1) := by decide +kernel
theorem dL_law_674 : decode cL_law 674 = .ok (.iconst 4, 1) := by decide +kernel
theorem dL_law_675 : decode cL_law 675 = .ok (.iadd, 1) := by decide +kernel
theorem dL_law_676 : decode cL_law 676 = .ok (.iaload, 1) := by decide +kernel
theorem dL_law_677 : decode cL_law 677 = .ok (.invokevirtual 78, 3) := by decide +kernel
theorem dL_law_680 : decode cL_law 680 = .ok (.aload_n 2, 1) := by decide +kernel
theorem dL_law_681 : decode cL_law 681 = .ok (.aload_n 0, 1) := by decide +kernel
theorem dL_law_682 : decode cL_law 682 = .ok (.iload_n 3, 1) := by decide +kernel
theorem dL_law_683 : decode cL_law 683 = .ok (.iconst 1, 1) := by decide +kernel
theorem dL_law_684 : decode cL_law 684 = .ok (.iadd, 1) := by decide +kernel
theorem dL_law_685 : decode cL_law 685 = .ok (.iaload, 1) := by decide +kernel
theorem dL_law_686 : decode cL_law 686 = .ok (.aload_n 0, 1) := by decide +kernel
theorem dL_law_687 : decode cL_law 687 = .ok (.iload_n 3, 1) := by decide +kernel
theorem dL_law_688 : decode cL_law 688 = .ok (.iconst 2, 1) := by decide +kernel
theorem dL_law_689 : decode cL_law 689 = .ok (.iadd, 1) := by decide +kernel
theorem dL_law_690 : decode cL_law 690 = .ok (.iaload, 1) := by decide +kernel
theorem dL_law_691 : decode cL_law 691 = .ok (.aload_n 0, 1) := by decide +kernel
theorem dL_law_692 : decode cL_law 692 = .ok (.iload_n 3, 1) := by decide +kernel
theorem dL_law_693 : decode cL_law 693 = .ok (.iconst 3, 1) := by decide +kernel
theorem dL_law_694 : decode cL_law 694 = .ok (.iadd, 1) := by decide +kernel
theorem dL_law_695 : decode cL_law 695 = .ok (.iaload, 1) := by decide +kernel
theorem dL_law_696 : decode cL_law 696 = .ok (.aload_n 0, 1) := by decide +kernel
theorem dL_law_697 : decode cL_law 697 = .ok (.iload_n 3, 1) := by decide +kernel
theorem dL_law_698 : decode cL_law 698 = .ok (.iconst 4, 1) := by decide +kernel
theorem dL_law_699 : decode cL_law 699 = .ok (.iadd, 1) := by decide +kernel
theorem dL_law_700 : decode cL_law 700 = .ok (.iaload, 1) := by decide +kernel
theorem dL_law_701 : decode cL_law 701 = .ok (.invokevirtual 81, 3) := by decide +kernel
theorem dL_law_704 : decode cL_law 704 = .ok (.if_icmp .eq 407, 3) := by decide +kernel
theorem dL_law_707 : decode cL_law 707 = .ok (.iconst 0, 1) := by decide +kernel
theorem dL_law_708 : decode cL_law 708 = .ok (.ireturn, 1) := by decide +kernel
theorem dL_law_709 : decode cL_law 709 = .ok (.aload_n 1, 1) := by decide +kernel
theorem dL_law_710 : decode cL_law 710 = .ok (.aload_n 0, 1) := by decide +kernel
theorem dL_law_711 : decode cL_law 711 = .ok (.iload_n 3, 1) := by decide +kernel
theorem dL_law_712 : decode cL_law 712 = .ok (.iconst 1, 1) := by decide +kernel
theorem dL_law_713 : decode cL_law 713 = .ok (.iadd, 1) := by decide +kernel
theorem dL_law_714 : decode cL_law 714 = .ok (.iaload, 1) := by decide +kernel
theorem dL_law_715 : decode cL_law 715 = .ok (.aload_n 0, 1) := by decide +kernel
theorem dL_law_716 : decode cL_law 716 = .ok (.iload_n 3, 1) := by decide +kernel
theorem dL_law_717 : decode cL_law 717 = .ok (.iconst 2, 1) := by decide +kernel
theorem dL_law_718 : decode cL_law 718 = .ok (.iadd, 1) := by decide +kernel
theorem dL_law_719 : decode cL_law 719 = .ok (.iaload, 1) := by decide +kernel
theorem dL_law_720 : decode cL_law 720 = .ok (.aload_n 0, 1) := by decide +kernel
theorem dL_law_721 : decode cL_law 721 = .ok (.iload_n 3, 1) := by decide +kernel
theorem dL_law_722 : decode cL_law 722 = .ok (.iconst 3, 1) := by decide +kernel
theorem dL_law_723 : decode cL_law 723 = .ok (.iadd, 1) := by decide +kernel
theorem dL_law_724 : decode cL_law 724 = .ok (.iaload, 1) := by decide +kernel
theorem dL_law_725 : decode cL_law 725 = .ok (.invokevirtual 82, 3) := by decide +kernel
theorem dL_law_728 : decode cL_law 728 = .ok (.aload_n 2, 1) := by decide +kernel
theorem dL_law_729 : decode cL_law 729 = .ok (.aload_n 0, 1) := by decide +kernel
theorem dL_law_730 : decode cL_law 730 = .ok (.iload_n 3, 1) := by decide +kernel
theorem dL_law_731 : decode cL_law 731 = .ok (.iconst 1, 1) := by decide +kernel
theorem dL_law_732 : decode cL_law 732 = .ok (.iadd, 1) := by decide +kernel
theorem dL_law_733 : decode cL_law 733 = .ok (.iaload, 1) := by decide +kernel
theorem dL_law_734 : decode cL_law 734 = .ok (.aload_n 0, 1) := by decide +kernel
theorem dL_law_735 : decode cL_law 735 = .ok (.iload_n 3, 1) := by decide +kernel
theorem dL_law_736 : decode cL_law 736 = .ok (.iconst 2, 1) := by decide +kernel
theorem dL_law_737 : decode cL_law 737 = .ok (.iadd, 1) := by decide +kernel
theorem dL_law_738 : decode cL_law 738 = .ok (.iaload, 1) := by decide +kernel
theorem dL_law_739 : decode cL_law 739 = .ok (.aload_n 0, 1) := by decide +kernel
theorem dL_law_740 : decode cL_law 740 = .ok (.iload_n 3, 1) := by decide +kernel
theorem dL_law_741 : decode cL_law 741 = .ok (.iconst 3, 1) := by decide +kernel
theorem dL_law_742 : decode cL_law 742 = .ok (.iadd, 1) := by decide +kernel
theorem dL_law_743 : decode cL_law 743 = .ok (.iaload, 1) := by decide +kernel
theorem dL_law_744 : decode cL_law 744 = .ok (.invokevirtual 85, 3) := by decide +kernel
theorem dL_law_747 : decode cL_law 747 = .ok (.if_icmp .eq 364, 3) := by decide +kernel
theorem dL_law_750 : decode cL_law 750 = .ok (.iconst 0, 1) := by decide +kernel
theorem dL_law_751 : decode cL_law 751 = .ok (.ireturn, 1) := by decide +kernel
theorem dL_law_752 : decode cL_law 752 = .ok (.aload_n 1, 1) := by decide +kernel
theorem dL_law_753 : decode cL_law 753 = .ok (.aload_n 0, 1) := by decide +kernel
theorem dL_law_754 : decode cL_law 754 = .ok (.iload_n 3, 1) := by decide +kernel
theorem dL_law_755 : decode cL_law 755 = .ok (.iconst 1, 1) := by decide +kernel
theorem dL_law_756 : decode cL_law 756 = .ok (.iadd, 1) := by decide +kernel
theorem dL_law_757 : decode cL_law 757 = .ok (.iaload, 1) := by decide +kernel
theorem dL_law_758 : decode cL_law 758 = .ok (.aload_n 0, 1) := by decide +kernel
theorem dL_law_759 : decode cL_law 759 = .ok (.iload_n 3, 1) := by decide +kernel
theorem dL_law_760 : decode cL_law 760 = .ok (.iconst 2, 1) := by decide +kernel
theorem dL_law_761 : decode cL_law 761 = .ok (.iadd, 1) := by decide +kernel
theorem dL_law_762 : decode cL_law 762 = .ok (.iaload, 1) := by decide +kernel
theorem dL_law_763 : decode cL_law 763 = .ok (.invokevirtual 86, 3) := by decide +kernel
theorem dL_law_766 : decode cL_law 766 = .ok (.aload_n 2, 1) := by decide +kernel
theorem dL_law_767 : decode cL_law 767 = .ok (.aload_n 0, 1) := by decide +kernel
theorem dL_law_768 : decode cL_law 768 = .ok (.iload_n 3, 1) := by decide +kernel
theorem dL_law_769 : decode cL_law 769 = .ok (.iconst 1, 1) := by decide +kernel
theorem dL_law_770 : decode cL_law 770 = .ok (.iadd, 1) := by decide +kernel
theorem dL_law_771 : decode cL_law 771 = .ok (.iaload, 1) := by decide +kernel
theorem dL_law_772 : decode cL_law 772 = .ok (.aload_n 0, 1) := by decide +kernel
theorem dL_law_773 : decode cL_law 773 = .ok (.iload_n 3, 1) := by decide +kernel
theorem dL_law_774 : decode cL_law 774 = .ok (.iconst 2, 1) := by decide +kernel
theorem dL_law_775 : decode cL_law 775 = .ok (.iadd, 1) := by decide +kernel
theorem dL_law_776 : decode cL_law 776 = .ok (.iaload, 1) := by decide +kernel
theorem dL_law_777 : decode cL_law 777 = .ok (.invokevirtual 89, 3) := by decide +kernel
theorem dL_law_780 : decode cL_law 780 = .ok (.if_icmp .eq 331, 3) := by decide +kernel
theorem dL_law_783 : decode cL_law 783 = .ok (.iconst 0, 1) := by decide +kernel
theorem dL_law_784 : decode cL_law 784 = .ok (.ireturn, 1) := by decide +kernel
theorem dL_law_785 : decode cL_law 785 = .ok (.aload_n 1, 1) := by decide +kernel
theorem dL_law_786 : decode cL_law 786 = .ok (.aload_n 0, 1) := by decide +kernel
theorem dL_law_787 : decode cL_law 787 = .ok (.iload_n 3, 1) := by decide +kernel
theorem dL_law_788 : decode cL_law 788 = .ok (.iconst 1, 1) := by decide +kernel
theorem dL_law_789 : decode cL_law 789 = .ok (.iadd, 1) := by decide +kernel
theorem dL_law_790 : decode cL_law 790 = .ok (.iaload, 1) := by decide +kernel
theorem dL_law_791 : decode cL_law 791 = .ok (.aload_n 0, 1) := by decide +kernel
theorem dL_law_792 : decode cL_law 792 = .ok (.iload_n 3, 1) := by decide +kernel
theorem dL_law_793 : decode cL_law 793 = .ok (.iconst 2, 1) := by decide +kernel
theorem dL_law_794 : decode cL_law 794 = .ok (.iadd, 1) := by decide +kernel
theorem dL_law_795 : decode cL_law 795 = .ok (.iaload, 1) := by decide +kernel
theorem dL_law_796 : decode cL_law 796 = .ok (.aload_n 0, 1) := by decide +kernel
theorem dL_law_797 : decode cL_law 797 = .ok (.iload_n 3, 1) := by decide +kernel
theorem dL_law_798 : decode cL_law 798 = .ok (.iconst 3, 1) := by decide +kernel
theorem dL_law_799 : decode cL_law 799 = .ok (.iadd, 1) := by decide +kernel
theorem dL_law_800 : decode cL_law 800 = .ok (.iaload, 1) := by decide +kernel
theorem dL_law_801 : decode cL_law 801 = .ok (.invokevirtual 90, 3) := by decide +kernel
theorem dL_law_804 : decode cL_law 804 = .ok (.aload_n 2, 1) := by decide +kernel
theorem dL_law_805 : decode cL_law 805 = .ok (.aload_n 0, 1) := by decide +kernel
theorem dL_law_806 : decode cL_law 806 = .ok (.iload_n 3, 1) := by decide +kernel
theorem dL_law_807 : decode cL_law 807 = .ok (.iconst 1, 1) := by decide +kernel
theorem dL_law_808 : decode cL_law 808 = .ok (.iadd, 1) := by decide +kernel
theorem dL_law_809 : decode cL_law 809 = .ok (.iaload, 1) := by decide +kernel
theorem dL_law_810 : decode cL_law 810 = .ok (.aload_n 0, 1) := by decide +kernel
theorem dL_law_811 : decode cL_law 811 = .ok (.iload_n 3, 1) := by decide +kernel
theorem dL_law_812 : decode cL_law 812 = .ok (.iconst 2, 1) := by decide +kernel
theorem dL_law_813 : decode cL_law 813 = .ok (.iadd, 1) := by decide +kernel
theorem dL_law_814 : decode cL_law 814 = .ok (.iaload, 1) := by decide +kernel
theorem dL_law_815 : decode cL_law 815 = .ok (.aload_n 0, 1) := by decide +kernel
theorem dL_law_816 : decode cL_law 816 = .ok (.iload_n 3, 1) := by decide +kernel
theorem dL_law_817 : decode cL_law 817 = .ok (.iconst 3, 1) := by decide +kernel
theorem dL_law_818 : decode cL_law 818 = .ok (.iadd, 1) := by decide +kernel
theorem dL_law_819 : decode cL_law 819 = .ok (.iaload, 1) := by decide +kernel
theorem dL_law_820 : decode cL_law 820 = .ok (.invokevirtual 93, 3) := by decide +kernel
theorem dL_law_823 : decode cL_law 823 = .ok (.if_icmp .eq 288, 3) := by decide +kernel
theorem dL_law_826 : decode cL_law 826 = .ok (.iconst 0, 1) := by decide +kernel
theorem dL_law_827 : decode cL_law 827 = .ok (.ireturn, 1) := by decide +kernel
theorem dL_law_828 : decode cL_law 828 = .ok (.aload_n 1, 1) := by decide +kernel
theorem dL_law_829 : decode cL_law 829 = .ok (.aload_n 0, 1) := by decide +kernel
theorem dL_law_830 : decode cL_law 830 = .ok (.iload_n 3, 1) := by decide +kernel
theorem dL_law_831 : decode cL_law 831 = .ok (.iconst 1, 1) := by decide +kernel
theorem dL_law_832 : decode cL_law 832 = .ok (.iadd, 1) := by decide +kernel
theorem dL_law_833 : decode cL_law 833 = .ok (.iaload, 1) := by decide +kernel
theorem dL_law_834 : decode cL_law 834 = .ok (.aload_n 0, 1) := by decide +kernel
theorem dL_law_835 : decode cL_law 835 = .ok (.iload_n 3, 1) := by decide +kernel
theorem dL_law_836 : decode cL_law 836 = .ok (.iconst 2, 1) := by decide +kernel
theorem dL_law_837 : decode cL_law 837 = .ok (.iadd, 1) := by decide +kernel
theorem dL_law_838 : decode cL_law 838 = .ok (.iaload, 1) := by decide +kernel
theorem dL_law_839 : decode cL_law 839 = .ok (.aload_n 0, 1) := by decide +kernel
theorem dL_law_840 : decode cL_law 840 = .ok (.iload_n 3, 1) := by decide +kernel
theorem dL_law_841 : decode cL_law 841 = .ok (.iconst 3, 1) := by decide +kernel
theorem dL_law_842 : decode cL_law 842 = .ok (.iadd, 1) := by decide +kernel
theorem dL_law_843 : decode cL_law 843 = .ok (.iaload, 1) := by decide +kernel
theorem dL_law_844 : decode cL_law 844 = .ok (.invokevirtual 94, 3) := by decide +kernel
theorem dL_law_847 : decode cL_law 847 = .ok (.aload_n 2, 1) := by decide +kernel
theorem dL_law_848 : decode cL_law 848 = .ok (.aload_n 0, 1) := by decide +kernel
theorem dL_law_849 : decode cL_law 849 = .ok (.iload_n 3, 1) := by decide +kernel
theorem dL_law_850 : decode cL_law 850 = .ok (.iconst 1, 1) := by decide +kernel
theorem dL_law_851 : decode cL_law 851 = .ok (.iadd, 1) := by decide +kernel
theorem dL_law_852 : decode cL_law 852 = .ok (.iaload, 1) := by decide +kernel
theorem dL_law_853 : decode cL_law 853 = .ok (.aload_n 0, 1) := by decide +kernel
theorem dL_law_854 : decode cL_law 854 = .ok (.iload_n 3, 1) := by decide +kernel
theorem dL_law_855 : decode cL_law 855 = .ok (.iconst 2, 1) := by decide +kernel
theorem dL_law_856 : decode cL_law 856 = .ok (.iadd, 1) := by decide +kernel
theorem dL_law_857 : decode cL_law 857 = .ok (.iaload, 1) := by decide +kernel
theorem dL_law_858 : decode cL_law 858 = .ok (.aload_n 0, 1) := by decide +kernel
theorem dL_law_859 : decode cL_law 859 = .ok (.iload_n 3, 1) := by decide +kernel
theorem dL_law_860 : decode cL_law 860 = .ok (.iconst 3, 1) := by decide +kernel
theorem dL_law_861 : decode cL_law 861 = .ok (.iadd, 1) := by decide +kernel
theorem dL_law_862 : decode cL_law 862 = .ok (.iaload, 1) := by decide +kernel
theorem dL_law_863 : decode cL_law 863 = .ok (.invokevirtual 97, 3) := by decide +kernel
theorem dL_law_866 : decode cL_law 866 = .ok (.if_icmp .eq 245, 3) := by decide +kernel
theorem dL_law_869 : decode cL_law 869 = .ok (.iconst 0, 1) := by decide +kernel
theorem dL_law_870 : decode cL_law 870 = .ok (.ireturn, 1) := by decide +kernel
theorem dL_law_871 : decode cL_law 871 = .ok (.aload_n 1, 1) := by decide +kernel
theorem dL_law_872 : decode cL_law 872 = .ok (.aload_n 0, 1) := by decide +kernel
theorem dL_law_873 : decode cL_law 873 = .ok (.iload_n 3, 1) := by decide +kernel
theorem dL_law_874 : decode cL_law 874 = .ok (.iconst 1, 1) := by decide +kernel
theorem dL_law_875 : decode cL_law 875 = .ok (.iadd, 1) := by decide +kernel
theorem dL_law_876 : decode cL_law 876 = .ok (.iaload, 1) := by decide +kernel
theorem dL_law_877 : decode cL_law 877 = .ok (.invokevirtual 98, 3) := by decide +kernel
theorem dL_law_880 : decode cL_law 880 = .ok (.aload_n 2, 1) := by decide +kernel
theorem dL_law_881 : decode cL_law 881 = .ok (.aload_n 0, 1) := by decide +kernel
theorem dL_law_882 : decode cL_law 882 = .ok (.iload_n 3, 1) := by decide +kernel
theorem dL_law_883 : decode cL_law 883 = .ok (.iconst 1, 1) := by decide +kernel
theorem dL_law_884 : decode cL_law 884 = .ok (.iadd, 1) := by decide +kernel
theorem dL_law_885 : decode cL_law 885 = .ok (.iaload, 1) := by decide +kernel
theorem dL_law_886 : decode cL_law 886 = .ok (.invokevirtual 101, 3) := by decide +kernel
theorem dL_law_889 : decode cL_law 889 = .ok (.if_icmp .eq 222, 3) := by decide +kernel
theorem dL_law_892 : decode cL_law 892 = .ok (.iconst 0, 1) := by decide +kernel
theorem dL_law_893 : decode cL_law 893 = .ok (.ireturn, 1) := by decide +kernel
theorem dL_law_894 : decode cL_law 894 = .ok (.aload_n 1, 1) := by decide +kernel
theorem dL_law_895 : decode cL_law 895 = .ok (.aload_n 0, 1) := by decide +kernel
theorem dL_law_896 : decode cL_law 896 = .ok (.iload_n 3, 1) := by decide +kernel
theorem dL_law_897 : decode cL_law 897 = .ok (.iconst 1, 1) := by decide +kernel
theorem dL_law_898 : decode cL_law 898 = .ok (.iadd, 1) := by decide +kernel
theorem dL_law_899 : decode cL_law 899 = .ok (.iaload, 1) := by decide +kernel
theorem dL_law_900 : decode cL_law 900 = .ok (.invokevirtual 102, 3) := by decide +kernel
theorem dL_law_903 : decode cL_law 903 = .ok (.aload_n 2, 1) := by decide +kernel
theorem dL_law_904 : decode cL_law 904 = .ok (.aload_n 0, 1) := by decide +kernel
theorem dL_law_905 : decode cL_law 905 = .ok (.iload_n 3, 1) := by decide +kernel
theorem dL_law_906 : decode cL_law 906 = .ok (.iconst 1, 1) := by decide +kernel
theorem dL_law_907 : decode cL_law 907 = .ok (.iadd, 1) := by decide +kernel
theorem dL_law_908 : decode cL_law 908 = .ok (.iaload, 1) := by decide +kernel
theorem dL_law_909 : decode cL_law 909 = .ok (.invokevirtual 105, 3) := by decide +kernel
theorem dL_law_912 : decode cL_law 912 = .ok (.if_icmp .eq 199, 3) := by decide +kernel
theorem dL_law_915 : decode cL_law 915 = .ok (.iconst 0, 1) := by decide +kernel
theorem dL_law_916 : decode cL_law 916 = .ok (.ireturn, 1) := by decide +kernel
theorem dL_law_917 : decode cL_law 917 = .ok (.aload_n 1, 1) := by decide +kernel
theorem dL_law_918 : decode cL_law 918 = .ok (.aload_n 0, 1) := by decide +kernel
theorem dL_law_919 : decode cL_law 919 = .ok (.iload_n 3, 1) := by decide +kernel
theorem dL_law_920 : decode cL_law 920 = .ok (.iconst 1, 1) := by decide +kernel
theorem dL_law_921 : decode cL_law 921 = .ok (.iadd, 1) := by decide +kernel
theorem dL_law_922 : decode cL_law 922 = .ok (.iaload, 1) := by decide +kernel
theorem dL_law_923 : decode cL_law 923 = .ok (.invokevirtual 106, 3) := by decide +kernel
theorem dL_law_926 : decode cL_law 926 = .ok (.aload_n 2, 1) := by decide +kernel
theorem dL_law_927 : decode cL_law 927 = .ok (.aload_n 0, 1) := by decide +kernel
theorem dL_law_928 : decode cL_law 928 = .ok (.iload_n 3, 1) := by decide +kernel
theorem dL_law_929 : decode cL_law 929 = .ok (.iconst 1, 1) := by decide +kernel
theorem dL_law_930 : decode cL_law 930 = .ok (.iadd, 1) := by decide +kernel
theorem dL_law_931 : decode cL_law 931 = .ok (.iaload, 1) := by decide +kernel
theorem dL_law_932 : decode cL_law 932 = .ok (.invokevirtual 109, 3) := by decide +kernel
theorem dL_law_935 : decode cL_law 935 = .ok (.if_icmp .eq 176, 3) := by decide +kernel
theorem dL_law_938 : decode cL_law 938 = .ok (.iconst 0, 1) := by decide +kernel
theorem dL_law_939 : decode cL_law 939 = .ok (.ireturn, 1) := by decide +kernel
theorem dL_law_940 : decode cL_law 940 = .ok (.aload_n 1, 1) := by decide +kernel
theorem dL_law_941 : decode cL_law 941 = .ok (.aload_n 0, 1) := by decide +kernel
theorem dL_law_942 : decode cL_law 942 = .ok (.iload_n 3, 1) := by decide +kernel
theorem dL_law_943 : decode cL_law 943 = .ok (.iconst 1, 1) := by decide +kernel
theorem dL_law_944 : decode cL_law 944 = .ok (.iadd, 1) := by decide +kernel
theorem dL_law_945 : decode cL_law 945 = .ok (.iaload, 1) := by decide +kernel
theorem dL_law_946 : decode cL_law 946 = .ok (.invokevirtual 110, 3) := by decide +kernel
theorem dL_law_949 : decode cL_law 949 = .ok (.aload_n 2, 1) := by decide +kernel
theorem dL_law_950 : decode cL_law 950 = .ok (.aload_n 0, 1) := by decide +kernel
theorem dL_law_951 : decode cL_law 951 = .ok (.iload_n 3, 1) := by decide +kernel
theorem dL_law_952 : decode cL_law 952 = .ok (.iconst 1, 1) := by decide +kernel
theorem dL_law_953 : decode cL_law 953 = .ok (.iadd, 1) := by decide +kernel
theorem dL_law_954 : decode cL_law 954 = .ok (.iaload, 1) := by decide +kernel
theorem dL_law_955 : decode cL_law 955 = .ok (.invokevirtual 113, 3) := by decide +kernel
theorem dL_law_958 : decode cL_law 958 = .ok (.if_icmp .eq 153, 3) := by decide +kernel
theorem dL_law_961 : decode cL_law 961 = .ok (.iconst 0, 1) := by decide +kernel
theorem dL_law_962 : decode cL_law 962 = .ok (.ireturn, 1) := by decide +kernel
theorem dL_law_963 : decode cL_law 963 = .ok (.aload_n 1, 1) := by decide +kernel
theorem dL_law_964 : decode cL_law 964 = .ok (.aload_n 0, 1) := by decide +kernel
theorem dL_law_965 : decode cL_law 965 = .ok (.iload_n 3, 1) := by decide +kernel
theorem dL_law_966 : decode cL_law 966 = .ok (.iconst 1, 1) := by decide +kernel
theorem dL_law_967 : decode cL_law 967 = .ok (.iadd, 1) := by decide +kernel
theorem dL_law_968 : decode cL_law 968 = .ok (.iaload, 1) := by decide +kernel
theorem dL_law_969 : decode cL_law 969 = .ok (.invokevirtual 114, 3) := by decide +kernel
theorem dL_law_972 : decode cL_law 972 = .ok (.aload_n 2, 1) := by decide +kernel
theorem dL_law_973 : decode cL_law 973 = .ok (.aload_n 0, 1) := by decide +kernel
theorem dL_law_974 : decode cL_law 974 = .ok (.iload_n 3, 1) := by decide +kernel
theorem dL_law_975 : decode cL_law 975 = .ok (.iconst 1, 1) := by decide +kernel
theorem dL_law_976 : decode cL_law 976 = .ok (.iadd, 1) := by decide +kernel
theorem dL_law_977 : decode cL_law 977 = .ok (.iaload, 1) := by decide +kernel
theorem dL_law_978 : decode cL_law 978 = .ok (.invokevirtual 117, 3) := by decide +kernel
theorem dL_law_981 : decode cL_law 981 = .ok (.if_icmp .eq 130, 3) := by decide +kernel
theorem dL_law_984 : decode cL_law 984 = .ok (.iconst 0, 1) := by decide +kernel
theorem dL_law_985 : decode cL_law 985 = .ok (.ireturn, 1) := by decide +kernel
theorem dL_law_986 : decode cL_law 986 = .ok (.aload_n 1, 1) := by decide +kernel
theorem dL_law_987 : decode cL_law 987 = .ok (.aload_n 0, 1) := by decide +kernel
theorem dL_law_988 : decode cL_law 988 = .ok (.iload_n 3, 1) := by decide +kernel
theorem dL_law_989 : decode cL_law 989 = .ok (.iconst 1, 1) := by decide +kernel
theorem dL_law_990 : decode cL_law 990 = .ok (.iadd, 1) := by decide +kernel
theorem dL_law_991 : decode cL_law 991 = .ok (.iaload, 1) := by decide +kernel
theorem dL_law_992 : decode cL_law 992 = .ok (.aload_n 0, 1) := by decide +kernel
theorem dL_law_993 : decode cL_law 993 = .ok (.iload_n 3, 1) := by decide +kernel
theorem dL_law_994 : decode cL_law 994 = .ok (.iconst 2, 1) := by decide +kernel
theorem dL_law_995 : decode cL_law 995 = .ok (.iadd, 1) := by decide +kernel
theorem dL_law_996 : decode cL_law 996 = .ok (.iaload, 1) := by decide +kernel
theorem dL_law_997 : decode cL_law 997 = .ok (.invokevirtual 118, 3) := by decide +kernel
theorem dL_law_1000 : decode cL_law 1000 = .ok (.aload_n 2, 1) := by decide +kernel
theorem dL_law_1001 : decode cL_law 1001 = .ok (.aload_n 0, 1) := by decide +kernel
theorem dL_law_1002 : decode cL_law 1002 = .ok (.iload_n 3, 1) := by decide +kernel
theorem dL_law_1003 : decode cL_law 1003 = .ok (.iconst 1, 1) := by decide +kernel
theorem dL_law_1004 : decode cL_law 1004 = .ok (.iadd, 1) := by decide +kernel
theorem dL_law_1005 : decode cL_law 1005 = .ok (.iaload, 1) := by decide +kernel
theorem dL_law_1006 : decode cL_law 1006 = .ok (.aload_n 0, 1) := by decide +kernel
theorem dL_law_1007 : decode cL_law 1007 = .ok (.iload_n 3, 1) := by decide +kernel
theorem dL_law_1008 : decode cL_law 1008 = .ok (.iconst 2, 1) := by decide +kernel
theorem dL_law_1009 : decode cL_law 1009 = .ok (.iadd, 1) := by decide +kernel
theorem dL_law_1010 : decode cL_law 1010 = .ok (.iaload, 1) := by decide +kernel
theorem dL_law_1011 : decode cL_law 1011 = .ok (.invokevirtual 121, 3) := by decide +kernel
theorem dL_law_1014 : decode cL_law 1014 = .ok (.if_icmp .eq 97, 3) := by decide +kernel
theorem dL_law_1017 : decode cL_law 1017 = .ok (.iconst 0, 1) := by decide +kernel
theorem dL_law_1018 : decode cL_law 1018 = .ok (.ireturn, 1) := by decide +kernel
theorem dL_law_1019 : decode cL_law 1019 = .ok (.aload_n 1, 1) := by decide +kernel
theorem dL_law_1020 : decode cL_law 1020 = .ok (.aload_n 0, 1) := by decide +kernel
theorem dL_law_1021 : decode cL_law 1021 = .ok (.iload_n 3, 1) := by decide +kernel
theorem dL_law_1022 : decode cL_law 1022 = .ok (.iconst 1, 1) := by decide +kernel
theorem dL_law_1023 : decode cL_law 1023 = .ok (.iadd, 1) := by decide +kernel
theorem dL_law_1024 : decode cL_law 1024 = .ok (.iaload, 1) := by decide +kernel
theorem dL_law_1025 : decode cL_law 1025 = .ok (.aload_n 0, 1) := by decide +kernel
theorem dL_law_1026 : decode cL_law 1026 = .ok (.iload_n 3, 1) := by decide +kernel
theorem dL_law_1027 : decode cL_law 1027 = .ok (.iconst 2, 1) := by decide +kernel
theorem dL_law_1028 : decode cL_law 1028 = .ok (.iadd, 1) := by decide +kernel
theorem dL_law_1029 : decode cL_law 1029 = .ok (.iaload, 1) := by decide +kernel
theorem dL_law_1030 : decode cL_law 1030 = .ok (.invokevirtual 122, 3) := by decide +kernel
theorem dL_law_1033 : decode cL_law 1033 = .ok (.aload_n 2, 1) := by decide +kernel
theorem dL_law_1034 : decode cL_law 1034 = .ok (.aload_n 0, 1) := by decide +kernel
theorem dL_law_1035 : decode cL_law 1035 = .ok (.iload_n 3, 1) := by decide +kernel
theorem dL_law_1036 : decode cL_law 1036 = .ok (.iconst 1, 1) := by decide +kernel
theorem dL_law_1037 : decode cL_law 1037 = .ok (.iadd, 1) := by decide +kernel
theorem dL_law_1038 : decode cL_law 1038 = .ok (.iaload, 1) := by decide +kernel
theorem dL_law_1039 : decode cL_law 1039 = .ok (.aload_n 0, 1) := by decide +kernel
theorem dL_law_1040 : decode cL_law 1040 = .ok (.iload_n 3, 1) := by decide +kernel
theorem dL_law_1041 : decode cL_law 1041 = .ok (.iconst 2, 1) := by decide +kernel
theorem dL_law_1042 : decode cL_law 1042 = .ok (.iadd, 1) := by decide +kernel
theorem dL_law_1043 : decode cL_law 1043 = .ok (.iaload, 1) := by decide +kernel
theorem dL_law_1044 : decode cL_law 1044 = .ok (.invokevirtual 125, 3) := by decide +kernel
theorem dL_law_1047 : decode cL_law 1047 = .ok (.if_icmp .eq 64, 3) := by decide +kernel
theorem dL_law_1050 : decode cL_law 1050 = .ok (.iconst 0, 1) := by decide +kernel
theorem dL_law_1051 : decode cL_law 1051 = .ok (.ireturn, 1) := by decide +kernel
theorem dL_law_1052 : decode cL_law 1052 = .ok (.aload_n 1, 1) := by decide +kernel
theorem dL_law_1053 : decode cL_law 1053 = .ok (.aload_n 0, 1) := by decide +kernel
theorem dL_law_1054 : decode cL_law 1054 = .ok (.iload_n 3, 1) := by decide +kernel
theorem dL_law_1055 : decode cL_law 1055 = .ok (.iconst 1, 1) := by decide +kernel
theorem dL_law_1056 : decode cL_law 1056 = .ok (.iadd, 1) := by decide +kernel
theorem dL_law_1057 : decode cL_law 1057 = .ok (.iaload, 1) := by decide +kernel
theorem dL_law_1058 : decode cL_law 1058 = .ok (.invokevirtual 126, 3) := by decide +kernel
theorem dL_law_1061 : decode cL_law 1061 = .ok (.aload_n 2, 1) := by decide +kernel
theorem dL_law_1062 : decode cL_law 1062 = .ok (.aload_n 0, 1) := by decide +kernel
theorem dL_law_1063 : decode cL_law 1063 = .ok (.iload_n 3, 1) := by decide +kernel
theorem dL_law_1064 : decode cL_law 1064 = .ok (.iconst 1, 1) := by decide +kernel
theorem dL_law_1065 : decode cL_law 1065 = .ok (.iadd, 1) := by decide +kernel
theorem dL_law_1066 : decode cL_law 1066 = .ok (.iaload, 1) := by decide +kernel
theorem dL_law_1067 : decode cL_law 1067 = .ok (.invokevirtual 129, 3) := by decide +kernel
theorem dL_law_1070 : decode cL_law 1070 = .ok (.if_icmp .eq 41, 3) := by decide +kernel
theorem dL_law_1073 : decode cL_law 1073 = .ok (.iconst 0, 1) := by decide +kernel
theorem dL_law_1074 : decode cL_law 1074 = .ok (.ireturn, 1) := by decide +kernel
theorem dL_law_1075 : decode cL_law 1075 = .ok (.aload_n 1, 1) := by decide +kernel
theorem dL_law_1076 : decode cL_law 1076 = .ok (.aload_n 0, 1) := by decide +kernel
theorem dL_law_1077 : decode cL_law 1077 = .ok (.iload_n 3, 1) := by decide +kernel
theorem dL_law_1078 : decode cL_law 1078 = .ok (.iconst 1, 1) := by decide +kernel
theorem dL_law_1079 : decode cL_law 1079 = .ok (.iadd, 1) := by decide +kernel
theorem dL_law_1080 : decode cL_law 1080 = .ok (.iaload, 1) := by decide +kernel
theorem dL_law_1081 : decode cL_law 1081 = .ok (.invokevirtual 130, 3) := by decide +kernel
theorem dL_law_1084 : decode cL_law 1084 = .ok (.aload_n 2, 1) := by decide +kernel
theorem dL_law_1085 : decode cL_law 1085 = .ok (.aload_n 0, 1) := by decide +kernel
theorem dL_law_1086 : decode cL_law 1086 = .ok (.iload_n 3, 1) := by decide +kernel
theorem dL_law_1087 : decode cL_law 1087 = .ok (.iconst 1, 1) := by decide +kernel
theorem dL_law_1088 : decode cL_law 1088 = .ok (.iadd, 1) := by decide +kernel
theorem dL_law_1089 : decode cL_law 1089 = .ok (.iaload, 1) := by decide +kernel
theorem dL_law_1090 : decode cL_law 1090 = .ok (.invokevirtual 133, 3) := by decide +kernel
theorem dL_law_1093 : decode cL_law 1093 = .ok (.if_icmp .eq 18, 3) := by decide +kernel
theorem dL_law_1096 : decode cL_law 1096 = .ok (.iconst 0, 1) := by decide +kernel
theorem dL_law_1097 : decode cL_law 1097 = .ok (.ireturn, 1) := by decide +kernel
theorem dL_law_1098 : decode cL_law 1098 = .ok (.aload_n 1, 1) := by decide +kernel
theorem dL_law_1099 : decode cL_law 1099 = .ok (.invokevirtual 134, 3) := by decide +kernel
theorem dL_law_1102 : decode cL_law 1102 = .ok (.aload_n 2, 1) := by decide +kernel
theorem dL_law_1103 : decode cL_law 1103 = .ok (.invokevirtual 137, 3) := by decide +kernel
theorem dL_law_1106 : decode cL_law 1106 = .ok (.if_icmp .eq 5, 3) := by decide +kernel
theorem dL_law_1109 : decode cL_law 1109 = .ok (.iconst 0, 1) := by decide +kernel
theorem dL_law_1110 : decode cL_law 1110 = .ok (.ireturn, 1) := by decide +kernel
theorem dL_law_1111 : decode cL_law 1111 = .ok (.iinc 3 6, 3) := by decide +kernel
theorem dL_law_1114 : decode cL_law 1114 = .ok (.goto (-1096), 3) := by decide +kernel
theorem dL_law_1117 : decode cL_law 1117 = .ok (.iconst 1, 1) := by decide +kernel
theorem dL_law_1118 : decode cL_law 1118 = .ok (.ireturn, 1) := by decide +kernel
end
section
/-! ===== THE Z LAYER: the machine seen from a heap that is a list of cells, at addresses counted from a base ===== -/
abbrev zE : Type := (Nat × vp_A) ⊕ (Nat × List Value)
abbrev zH : Type := List zE
/-- base; the addresses of what lies outside (strings); the classes of the arrays by kind; the classes' layouts; the script -/
abbrev zG : Type := Nat × (Nat → Nat) × (Nat → ClassId) × va_G × (Nat × Nat × (Nat → Int32))
abbrev zM : Type := MethodName × ByteArray × Nat × Option FieldType
abbrev zX : Type := Option Value × zH
abbrev zL : Type := List (Option Value)
def zal (G : zG) (k : Nat) : Nat := if k < 1000000 then G.1 + k else G.2.1 k
def zv (G : zG) (v : Value) : Value := match v with
  | .ref a => .ref (zal G a)
  | v => v
def zc (G : zG) (e : zE) : va_E := match e with
  | .inl (k, n, .inr (.inr (.inr (.inr f)))) => .inl (G.2.2.1 k, n, .inr (.inr (.inr (.inr (fun j => (f j).map (zal G))))))
  | .inl (k, a) => .inl (G.2.2.1 k, a)
  | .inr (ci, fs) => .inr (ci, fs.map (zv G))
def zw (G : zG) (h : zH) : va_W := h.zipIdx.map (fun q => (zal G q.2, zc G q.1))
def zA (G : zG) : Nat → Prop := fun q => G.1 ≤ q
theorem zw_at {G : zG} {h : zH} {k : Nat} {e : zE} (hk : h[k]? = some e) : (zw G h)[k]? = some (zal G k, zc G e) := by
  unfold zw
  rw [List.getElem?_map, List.getElem?_zipIdx, hk]
  simp
theorem zw_inv {G : zG} {h : zH} {k : Nat} {q : Nat × va_E} (hk : (zw G h)[k]? = some q) : k < h.length ∧ q.1 = zal G k := by
  unfold zw at hk
  rw [List.getElem?_map, List.getElem?_zipIdx] at hk
  cases he : h[k]? with
  | none => rw [he] at hk; simp at hk
  | some e =>
    rw [he] at hk
    simp at hk
    exact ⟨(List.getElem?_eq_some_iff.mp he).1, by rw [← hk]⟩
theorem zw_set {G : zG} {h : zH} {k : Nat} {e : zE} : zw G (h.set k e) = (zw G h).set k (zal G k, zc G e) := by
  apply List.ext_getElem?
  intro i
  by_cases hi : i = k
  · subst hi
    by_cases hl : i < h.length
    · have h1 : (h.set i e)[i]? = some e := by simp [hl]
      rw [zw_at h1, List.getElem?_set_self (by simpa [zw] using hl)]
    · rw [List.getElem?_eq_none (by simp [zw]; omega), List.getElem?_eq_none (by simp [zw]; omega)]
  · rw [List.getElem?_set_ne (fun q => hi q.symm)]
    unfold zw
    rw [List.getElem?_map, List.getElem?_map, List.getElem?_zipIdx, List.getElem?_zipIdx, List.getElem?_set_ne (fun q => hi q.symm)]
theorem zw_push {G : zG} {h : zH} {e : zE} : zw G (h ++ [e]) = zw G h ++ [(zal G h.length, zc G e)] := by
  unfold zw
  simp [List.zipIdx_append]
theorem zal_lt {G : zG} {k : Nat} (h : k < 1000000) : zal G k = G.1 + k := if_pos h
theorem zw_D {G : zG} {h : zH} (hl : h.length ≤ 1000000) : va_D (zA G) (zw G h) := by
  refine ⟨fun i j p q hi hj hpq => ?_, fun k q hk => ?_⟩
  · obtain ⟨h1, h2⟩ := zw_inv hi
    obtain ⟨h3, h4⟩ := zw_inv hj
    rw [h2, h4, zal_lt (by omega), zal_lt (by omega)] at hpq
    omega
  · obtain ⟨h1, h2⟩ := zw_inv hk
    rw [h2, zal_lt (by omega)]
    show G.1 ≤ G.1 + k
    omega
def zRep (G : zG) (h : zH) (H : Heap) : Prop := va_P G.2.2.2.1 vwCl (zw G h) H ∧ H.size = G.1 + h.length ∧ h.length ≤ 1000000
def zT (G : zG) : List (ClassId × FieldType) := [(G.2.2.1 0, .int), (G.2.2.1 1, .long), (G.2.2.1 2, .boolean), (G.2.2.1 3, .array .int), (G.2.2.1 4, .object "YoungerBack$Way"), (G.2.2.1 5, .object "YoungerBack$Person"), (G.2.2.1 6, .object "YoungerBack$League")]
def zNest : List (String × Nat × MethodName × String) := [(RX7, 27, yX5_init, RX7), (RX3, 36, yX6_init, RX7), (RX3, 37, yX4_init, RX7), (RX0, 24, yX4_init, RX7), (RX7, 66, yX2_init, RX7), (RX7, 76, yX1_init, RX7), (RX5, 125, yX7_isOutside, RX7), (RX2, 15, yX7_isOutside, RX7), (RX1, 36, yX7_isOfKind, RX7)]
def zAOA (U : State) : Prop := (Cond.arrayOver (.array .int)).before #[] U = true
theorem zAOA.moved {u U : State} (hvm : u.vm.Alike U.vm) (h : zAOA u) : zAOA U := over_moved hvm h
def zK (G : zG) (s : State) : Prop := va_K G.2.2.2.1 vwCl (zT G) s ∧ zAOA s ∧ (∀ C ∈ ["YoungerBack$Way", "YoungerBack$Person", "YoungerBack$League"], va_AO C s) ∧ ∀ q ∈ zNest, va_Nw (.methodLinkNest q.1 q.2.1 q.2.2.1 q.2.2.2) s
def zLen : List Nat := [3, 3, 6, 7, 5, 4, 5, 3]
def zByt : List (List Int32) := [[108, 97, 119], [119, 97, 121], [112, 101, 114, 115, 111, 110], [99, 97, 112, 116, 97, 105, 110], [112, 105, 108, 111, 116], [109, 111, 110, 107], [99, 108, 101, 114, 107], [98, 111, 121]]
def zStr : List (String × Nat × String × Nat) := [(RX5, 50, "law", 0), (RX5, 70, "way", 1), (RX5, 80, "person", 2), (RX5, 129, "captain", 3), (RX5, 131, "pilot", 4), (RX5, 133, "monk", 5), (RX5, 135, "clerk", 6), (RX5, 137, "boy", 7)]
def zS (G : zG) (U : State) (H : Heap) : Prop := vk_S 8 zLen zByt (fun i => zal G (1000000 + i)) (fun i => zal G (1000100 + i)) (zA G) U H ∧ (∀ q ∈ zStr, vk_R q.1 q.2.1 q.2.2.1 (zal G (1000000 + q.2.2.2)) U) ∧ va_Z "java/lang/String" "COMPACT_STRINGS" "Z" (.int 1) (zA G) U H ∧ va_Zq "jdk/internal/util/Preconditions" "SIOOBE_FORMATTER" "Ljava/util/function/BiFunction;" (zA G) U H ∧ va_X G.2.2.2.2.1 G.2.2.2.2.2.1 G.2.2.2.2.2.2 U H ∧ ¬ zA G G.2.2.2.2.1
theorem zK.warm {G : zG} {s U : State} (hW : s.WarmedH U.vm) (h : zK G s) : zK G U :=
  ⟨h.1.moved hW.alike, h.2.1.moved hW.alike, fun C hC => (h.2.2.1 C hC).moved hW.alike, fun q hq => (h.2.2.2 q hq).warmM hW⟩
theorem zK.same {G : zG} {u U : State} (hv : u.vm = U.vm) (h : zK G u) : zK G U :=
  ⟨h.1.moved (by rw [hv]; exact Vm.Alike.refl _), h.2.1.moved (by rw [hv]; exact Vm.Alike.refl _), fun C hC => (h.2.2.1 C hC).moved (by rw [hv]; exact Vm.Alike.refl _), fun q hq => va_Nw.same rfl hv (h.2.2.2 q hq)⟩
theorem zX.lt {b L : Nat} {xs : Nat → Int32} {U : State} {H : Heap} (h : va_X b L xs U H) : b < H.size := by
  obtain ⟨scr, h1, -⟩ := h
  exact (Array.getElem?_eq_some_iff.mp h1).1
theorem zS.kept {G : zG} {U : State} {H H1 : Heap} (hq : ∀ a : Nat, a < H.size → ¬ zA G a → H1[a]? = H[a]?) (h : zS G U H) : zS G U H1 :=
  ⟨h.1.kept hq, h.2.1, h.2.2.1.kept hq, h.2.2.2.1.kept hq, h.2.2.2.2.1.kept (hq _ (zX.lt h.2.2.2.2.1) h.2.2.2.2.2), h.2.2.2.2.2⟩
theorem zS.warm {G : zG} {s U : State} {H : Heap} (hW : s.WarmedH U.vm) (h : zS G s H) : zS G U H :=
  ⟨h.1.moved hW.alike, fun q hq => (h.2.1 q hq).warm hW, h.2.2.1.moved hW.alike, h.2.2.2.1.moved hW.alike, h.2.2.2.2.1.moved hW.alike, h.2.2.2.2.2⟩
theorem zS.same {G : zG} {u U : State} {H : Heap} (hv : u.vm = U.vm) (h : zS G u H) : zS G U H :=
  ⟨h.1.moved (by rw [hv]; exact Vm.Alike.refl _), fun q hq => (h.2.1 q hq).same hv.symm, h.2.2.1.moved (by rw [hv]; exact Vm.Alike.refl _), h.2.2.2.1.moved (by rw [hv]; exact Vm.Alike.refl _), h.2.2.2.2.1.moved (by rw [hv]; exact Vm.Alike.refl _), h.2.2.2.2.2⟩
/-! locals by their places -/
def zprs (G : zG) (ls : zL) : List (Nat × Value) := ls.zipIdx.filterMap (fun q => q.1.map (fun v => (q.2, zv G v)))
theorem zprs_in {G : zG} {ls : zL} {j : Nat} {w : Value} : (j, w) ∈ zprs G ls ↔ ∃ v, ls[j]? = some (some v) ∧ w = zv G v := by
  unfold zprs
  rw [List.mem_filterMap]
  constructor
  · rintro ⟨⟨o, i⟩, hm, he⟩
    rw [List.mem_zipIdx_iff_getElem?] at hm
    cases o with
    | none => simp at he
    | some v =>
      simp at he
      obtain ⟨rfl, rfl⟩ := he
      exact ⟨v, hm, rfl⟩
  · rintro ⟨v, h1, rfl⟩
    exact ⟨(some v, j), by rw [List.mem_zipIdx_iff_getElem?]; exact h1, rfl⟩
def zLs (G : zG) (arr : Array Slot) (nL : Nat) (ls : zL) : Prop := lv_has arr nL (zprs G ls)
theorem zLs.at {G : zG} {arr : Array Slot} {nL : Nat} {ls : zL} (h : zLs G arr nL ls) {i : Nat} {v : Value} (hi : ls[i]? = some (some v)) : arr[i]? = some (.val (zv G v)) :=
  h.2.2 (i, zv G v) (zprs_in.mpr ⟨v, hi, rfl⟩)
def zcat2 (o : Option (Option Value)) : Bool := match o with
  | some (some (.long _)) => true
  | some (some (.double _)) => true
  | _ => false
def zclr (ls : zL) (i : Nat) : zL := match i with
  | 0 => ls
  | j + 1 => bif zcat2 ls[j]? then ls.set j none else ls
def zset1 (ls : zL) (i : Nat) (v : Value) : zL := (zclr ls i).set i (some v)
def zset2 (ls : zL) (i : Nat) (v : Value) : zL := ((zclr ls i).set i (some v)).set (i + 1) none
theorem zv_cat (G : zG) (v : Value) : (zv G v).category = v.category := by cases v <;> rfl
theorem zclr_at {ls : zL} {i j : Nat} {v : Value} (h : (zclr ls i)[j]? = some (some v)) : ls[j]? = some (some v) ∧ ¬ (j + 1 = i ∧ v.category = 2) := by
  cases i with
  | zero => exact ⟨h, fun q => by omega⟩
  | succ i =>
    simp only [zclr] at h
    cases hc : zcat2 ls[i]? with
    | true =>
      rw [hc] at h
      simp only [cond_true] at h
      by_cases hj : j = i
      · subst hj
        rw [List.getElem?_set] at h
        simp at h
      · rw [List.getElem?_set_ne (fun q => hj q.symm)] at h
        exact ⟨h, fun q => hj (by omega)⟩
    | false =>
      rw [hc] at h
      simp only [cond_false] at h
      refine ⟨h, fun q => ?_⟩
      have hj : j = i := by omega
      subst hj
      rw [h] at hc
      cases v <;> simp [zcat2, Value.category] at hc q
theorem lv_mono {arr : Array Slot} {nL : Nat} {l l' : List (Nat × Value)} (h : lv_has arr nL l) (hs : ∀ q ∈ l', q ∈ l) : lv_has arr nL l' := ⟨h.1, h.2.1, fun q hq => h.2.2 q (hs q hq)⟩
theorem zLs.set1 {G : zG} {arr : Array Slot} {nL : Nat} {ls : zL} {i : Nat} {v : Value} (h : lv_has arr nL ((i, zv G v) :: (zprs G ls).filter (fun q => !(q.1 == i) && !(q.1 + 1 == i && q.2.category == 2)))) : zLs G arr nL (zset1 ls i v) := by
  refine lv_mono h ?_
  rintro ⟨j, w⟩ hq
  obtain ⟨u, h1, rfl⟩ := zprs_in.mp hq
  unfold zset1 at h1
  by_cases hj : j = i
  · subst hj
    rw [List.getElem?_set] at h1
    simp at h1
    obtain ⟨-, rfl⟩ := h1
    exact List.mem_cons_self
  · rw [List.getElem?_set_ne (fun q => hj q.symm)] at h1
    obtain ⟨h2, h3⟩ := zclr_at h1
    refine List.mem_cons_of_mem _ (List.mem_filter.mpr ⟨zprs_in.mpr ⟨u, h2, rfl⟩, ?_⟩)
    simp only [zv_cat]
    simp [hj]
    rcases Classical.em (j + 1 = i) with h4 | h4
    · exact Or.inr (fun h5 => h3 ⟨h4, h5⟩)
    · exact Or.inl h4
theorem zLs.set2 {G : zG} {arr : Array Slot} {nL : Nat} {ls : zL} {i : Nat} {v : Value} (h : lv_has arr nL ((i, zv G v) :: (zprs G ls).filter (fun q => !(q.1 == i) && (!(q.1 == i + 1) && !(q.1 + 1 == i && q.2.category == 2))))) : zLs G arr nL (zset2 ls i v) := by
  refine lv_mono h ?_
  rintro ⟨j, w⟩ hq
  obtain ⟨u, h1, rfl⟩ := zprs_in.mp hq
  unfold zset2 at h1
  by_cases hj1 : j = i + 1
  · subst hj1
    rw [List.getElem?_set] at h1
    simp at h1
  · rw [List.getElem?_set_ne (fun q => hj1 q.symm)] at h1
    by_cases hj : j = i
    · subst hj
      rw [List.getElem?_set] at h1
      simp at h1
      obtain ⟨-, rfl⟩ := h1
      exact List.mem_cons_self
    · rw [List.getElem?_set_ne (fun q => hj q.symm)] at h1
      obtain ⟨h2, h3⟩ := zclr_at h1
      refine List.mem_cons_of_mem _ (List.mem_filter.mpr ⟨zprs_in.mpr ⟨u, h2, rfl⟩, ?_⟩)
      simp only [zv_cat]
      simp [hj, hj1]
      rcases Classical.em (j + 1 = i) with h4 | h4
      · exact Or.inr (fun h5 => h3 ⟨h4, h5⟩)
      · exact Or.inl h4
/-- the locals with which a method begins -/
def zargs : List Value → zL
  | [] => []
  | .long v :: vs => some (.long v) :: none :: zargs vs
  | .double v :: vs => some (.double v) :: none :: zargs vs
  | v :: vs => some v :: zargs vs
def zent (vs : List Value) (nL : Nat) : zL := zargs vs ++ List.replicate (nL - (zargs vs).length) none
theorem zargs_at {G : zG} : ∀ (vs : List Value) (b j : Nat) (v : Value), (zargs vs)[j]? = some (some v) → (b + j, zv G v) ∈ lv_args b (vs.map (zv G)) := by
  intro vs
  induction vs with
  | nil => intro b j v h; simp [zargs] at h
  | cons u vs ih =>
    intro b j v h
    have two : ∀ (x : Value), x.category = 2 → (zargs (x :: vs) = some x :: none :: zargs vs) → u = x → (b + j, zv G v) ∈ lv_args b ((u :: vs).map (zv G)) := by
      intro x hx he hu
      subst hu
      rw [he] at h
      show _ ∈ (b, zv G u) :: lv_args (if (zv G u).category = 2 then b + 2 else b + 1) (vs.map (zv G))
      rw [zv_cat, if_pos hx]
      match j, h with
      | 0, h => simp at h; subst h; exact List.mem_cons_self
      | 1, h => simp at h
      | j + 2, h =>
        have h2 : (zargs vs)[j]? = some (some v) := by simpa using h
        have := ih (b + 2) j v h2
        rw [show b + (j + 2) = b + 2 + j by omega]
        exact List.mem_cons_of_mem _ this
    have one : u.category = 1 → (zargs (u :: vs) = some u :: zargs vs) → (b + j, zv G v) ∈ lv_args b ((u :: vs).map (zv G)) := by
      intro hx he
      rw [he] at h
      show _ ∈ (b, zv G u) :: lv_args (if (zv G u).category = 2 then b + 2 else b + 1) (vs.map (zv G))
      rw [zv_cat, if_neg (by omega)]
      match j, h with
      | 0, h => simp at h; subst h; exact List.mem_cons_self
      | j + 1, h =>
        have h2 : (zargs vs)[j]? = some (some v) := by simpa using h
        have := ih (b + 1) j v h2
        rw [show b + (j + 1) = b + 1 + j by omega]
        exact List.mem_cons_of_mem _ this
    cases u with
    | int x => exact one rfl rfl
    | long x => exact two (.long x) rfl rfl rfl
    | float x => exact one rfl rfl
    | double x => exact two (.double x) rfl rfl rfl
    | null => exact one rfl rfl
    | ref x => exact one rfl rfl
    | retAddr x => exact one rfl rfl
theorem zent_has {G : zG} {vs : List Value} {nL : Nat} (h : (lg_sl (vs.map (zv G))).length ≤ nL) : zLs G ((lg_sl (vs.map (zv G)) ++ List.replicate (nL - (lg_sl (vs.map (zv G))).length) Slot.unset).toArray) nL (zent vs nL) := by
  refine lv_mono (lv_entry (vs.map (zv G)) h) ?_
  rintro ⟨j, w⟩ hq
  obtain ⟨v, h1, rfl⟩ := zprs_in.mp hq
  unfold zent at h1
  by_cases hj : j < (zargs vs).length
  · rw [List.getElem?_append_left hj] at h1
    have := zargs_at (G := G) vs 0 j v h1
    rwa [Nat.zero_add] at this
  · rw [List.getElem?_append_right (by omega)] at h1
    have := List.eq_of_mem_replicate (List.mem_of_getElem? h1)
    cases this
/-! the judgement -/
abbrev zR (d mc ms : Nat) : Room := { frames := d, cells := mc, slots := ms, locals := 36 * d }
def zF (M : zM) (G : zG) (p : Program) (s : State) (m : MethodId) (args : Array Value) (meth : Method) (c : Code) : Prop :=
  p.tables.exec = Jvm.exec ∧ c.code = M.2.1 ∧ c.maxLocals = M.2.2.1 ∧ meth.sig.returnType = M.2.2.2 ∧ s.vm.findClass M.1.cls = some m.cls ∧ (∀ w ∈ zts, w.before args s = true) ∧ zK G s ∧ zS G s s.heap ∧ meth.locks = false ∧ meth.name = M.1.name ∧ G.1 ≤ s.heap.size
def zFin (M : zM) (pc : Nat) (r : Option Value) : Prop :=
  (M.2.2.2 = none ∧ r = none ∧ decode M.2.1 pc = .ok (.return_, 1)) ∨ (∃ ty v, M.2.2.2 = some ty ∧ r = some (.int v) ∧ narrow ty (.int v) = .int v ∧ decode M.2.1 pc = .ok (.ireturn, 1)) ∨ (∃ v, M.2.2.2 = some .long ∧ r = some (.long v) ∧ decode M.2.1 pc = .ok (.lreturn, 1)) ∨ ∃ nm a, M.2.2.2 = some (.object nm) ∧ r = some (.ref a) ∧ decode M.2.1 pc = .ok (.areturn, 1)
def zEnd (M : zM) (d mc ms : Nat) (l : Launch) (p : Program) (e : Env) (s : State) (m : MethodId) (args : Array Value) (below : List Frame) (meth : Method) (c : Code) (Q : State → Prop) (G : zG) (X : zX) : Prop :=
  ∀ (H : Heap) (locs : List Loc) (arr : Array Slot) (pc : Nat), zFin M pc X.1 → zRep G X.2 H → va_S (zA G) s.heap H locs → W p l e (zR d mc ms) s m args below meth c H locs mc ms Q (F0 m pc arr ((X.1.map (zv G)).toList))
/-- at pc of M, with these locals, this stack and heap, k cells and n slots made: it comes to its end with X -/
def ZW (M : zM) (d mc ms pc : Nat) (ls : zL) (st : List Value) (h : zH) (k n : Nat) (X : zX) : Prop :=
  ∀ (l : Launch) (p : Program) (e : Env) (s : State) (m : MethodId) (args : Array Value) (below : List Frame) (meth : Method) (c : Code) (Q : State → Prop) (G : zG), zF M G p s m args meth c → zEnd M d mc ms l p e s m args below meth c Q G X →
    ∀ (H : Heap) (locs : List Loc) (arr : Array Slot), zRep G h H → va_S (zA G) s.heap H locs → zLs G arr M.2.2.1 ls → W p l e (zR d mc ms) s m args below meth c H locs k n Q (F0 m pc arr (st.map (zv G)))
def zQ (G : zG) (X : zX) : Array Value → State → Outcome → State → Prop := fun _ st o t => (o = .returned (X.1.map (zv G)) ∧ zRep G X.2 t.heap) ∧ va_F (zA G) st t
abbrev zws (M : zM) : List Cond := Cond.code M.1 M.2.1 M.2.2.1 M.2.2.2 :: zts
def zU (G : zG) (h : zH) (U : State) : Prop := zRep G h U.heap ∧ zK G U ∧ zS G U U.heap ∧ G.1 ≤ U.heap.size
/-- M, with these arguments and this heap, d frames deep: it returns X, with mc cells and ms slots made -/
def zEv (d : Nat) (M : zM) (mc ms : Nat) (As : List Value) (h : zH) (X : zX) : Prop :=
  ∀ (l : Launch) (G : zG), Met l M.1 (zws M) (zR d mc ms) (va_Pc (As.map (zv G)) (zU G h)) (zQ G X) mc ms (zA G)
end
section
theorem z_iconst {M : zM} {d mc ms pc q : Nat} {ls : zL} {st : List Value} {h : zH} {k n : Nat} {X : zX} {z : Int} {v : Int32} (hd : decode M.2.1 pc = .ok (.iconst z, 1)) (hv : Int32.ofInt z = v) (hq : pc + 1 = q) (kk : ZW M d mc ms q ls (.int v :: st) h k n X) : ZW M d mc ms pc ls (st) h k n X := by
  subst hq
  intro l p e s m args below meth c Q G F E H locs arr hR hS hL
  exact lv_iconst F.1 F.2.1  hd hv (kk l p e s m args below meth c Q G F E H locs arr hR hS hL)
theorem z_bipush {M : zM} {d mc ms pc q : Nat} {ls : zL} {st : List Value} {h : zH} {k n : Nat} {X : zX} {z : Int} {v : Int32} (hd : decode M.2.1 pc = .ok (.bipush z, 2)) (hv : (Int8.ofInt z).toInt32 = v) (hq : pc + 2 = q) (kk : ZW M d mc ms q ls (.int v :: st) h k n X) : ZW M d mc ms pc ls (st) h k n X := by
  subst hq
  intro l p e s m args below meth c Q G F E H locs arr hR hS hL
  exact lv_bipush F.1 F.2.1  hd hv (kk l p e s m args below meth c Q G F E H locs arr hR hS hL)
theorem z_sipush {M : zM} {d mc ms pc q : Nat} {ls : zL} {st : List Value} {h : zH} {k n : Nat} {X : zX} {z : Int} {v : Int32} (hd : decode M.2.1 pc = .ok (.sipush z, 3)) (hv : (Int16.ofInt z).toInt32 = v) (hq : pc + 3 = q) (kk : ZW M d mc ms q ls (.int v :: st) h k n X) : ZW M d mc ms pc ls (st) h k n X := by
  subst hq
  intro l p e s m args below meth c Q G F E H locs arr hR hS hL
  exact lv_sipush F.1 F.2.1  hd hv (kk l p e s m args below meth c Q G F E H locs arr hR hS hL)
theorem z_lconst {M : zM} {d mc ms pc q : Nat} {ls : zL} {st : List Value} {h : zH} {k n : Nat} {X : zX} {z : Fin 2} {v : Int64} (hd : decode M.2.1 pc = .ok (.lconst z, 1)) (hv : Int64.ofNat (z : Nat) = v) (hq : pc + 1 = q) (kk : ZW M d mc ms q ls (.long v :: st) h k n X) : ZW M d mc ms pc ls (st) h k n X := by
  subst hq
  intro l p e s m args below meth c Q G F E H locs arr hR hS hL
  exact lv_lconst F.1 F.2.1  hd hv (kk l p e s m args below meth c Q G F E H locs arr hR hS hL)
theorem z_ldc {M : zM} {d mc ms pc q : Nat} {ls : zL} {st : List Value} {h : zH} {k n : Nat} {X : zX} {i : Nat} {v : Int32} (hd : decode M.2.1 pc = .ok (.ldc i, 2)) (hw : Cond.constant M.1.cls i v ∈ zts) (hq : pc + 2 = q) (kk : ZW M d mc ms q ls (.int v :: st) h k n X) : ZW M d mc ms pc ls st h k n X := by
  subst hq
  intro l p e s m args below meth c Q G F E H locs arr hR hS hL
  exact lv_ldc F.1 F.2.1 F.2.2.2.2.1 (F.2.2.2.2.2.1 _ hw) hd (kk l p e s m args below meth c Q G F E H locs arr hR hS hL)
theorem z_ldcw {M : zM} {d mc ms pc q : Nat} {ls : zL} {st : List Value} {h : zH} {k n : Nat} {X : zX} {i : Nat} {v : Int32} (hd : decode M.2.1 pc = .ok (.ldc_w i, 3)) (hw : Cond.constant M.1.cls i v ∈ zts) (hq : pc + 3 = q) (kk : ZW M d mc ms q ls (.int v :: st) h k n X) : ZW M d mc ms pc ls st h k n X := by
  subst hq
  intro l p e s m args below meth c Q G F E H locs arr hR hS hL
  exact lv_ldcw F.1 F.2.1 F.2.2.2.2.1 (F.2.2.2.2.2.1 _ hw) hd (kk l p e s m args below meth c Q G F E H locs arr hR hS hL)
theorem z_ldc2 {M : zM} {d mc ms pc q : Nat} {ls : zL} {st : List Value} {h : zH} {k n : Nat} {X : zX} {i : Nat} {v : Int64} (hd : decode M.2.1 pc = .ok (.ldc2_w i, 3)) (hw : Cond.constantLong M.1.cls i v ∈ zts) (hq : pc + 3 = q) (kk : ZW M d mc ms q ls (.long v :: st) h k n X) : ZW M d mc ms pc ls st h k n X := by
  subst hq
  intro l p e s m args below meth c Q G F E H locs arr hR hS hL
  exact lv_ldc2 F.1 F.2.1 F.2.2.2.2.1 (F.2.2.2.2.2.1 _ hw) hd (kk l p e s m args below meth c Q G F E H locs arr hR hS hL)
theorem z_iload_n {M : zM} {d mc ms pc q : Nat} {ls : zL} {st : List Value} {h : zH} {k n : Nat} {X : zX} {w : Fin 4} {i : Nat} {x : Int32} (hd : decode M.2.1 pc = .ok (.iload_n w, 1)) (hi : (w : Nat) = i) (hl : ls[i]? = some (some (.int x))) (hq : pc + 1 = q) (kk : ZW M d mc ms q ls (.int x :: st) h k n X) : ZW M d mc ms pc ls st h k n X := by
  subst hq
  intro l p e s m args below meth c Q G F E H locs arr hR hS hL
  exact lv_iload_n F.1 F.2.1 hd hi (hL.at hl) (kk l p e s m args below meth c Q G F E H locs arr hR hS hL)
theorem z_iload {M : zM} {d mc ms pc q : Nat} {ls : zL} {st : List Value} {h : zH} {k n : Nat} {X : zX} {i : Nat} {x : Int32} (hd : decode M.2.1 pc = .ok (.iload i, 2)) (hl : ls[i]? = some (some (.int x))) (hq : pc + 2 = q) (kk : ZW M d mc ms q ls (.int x :: st) h k n X) : ZW M d mc ms pc ls st h k n X := by
  subst hq
  intro l p e s m args below meth c Q G F E H locs arr hR hS hL
  exact lv_iload F.1 F.2.1 hd (hL.at hl) (kk l p e s m args below meth c Q G F E H locs arr hR hS hL)
theorem z_lload_n {M : zM} {d mc ms pc q : Nat} {ls : zL} {st : List Value} {h : zH} {k n : Nat} {X : zX} {w : Fin 4} {i : Nat} {x : Int64} (hd : decode M.2.1 pc = .ok (.lload_n w, 1)) (hi : (w : Nat) = i) (hl : ls[i]? = some (some (.long x))) (hq : pc + 1 = q) (kk : ZW M d mc ms q ls (.long x :: st) h k n X) : ZW M d mc ms pc ls st h k n X := by
  subst hq
  intro l p e s m args below meth c Q G F E H locs arr hR hS hL
  exact lv_lload_n F.1 F.2.1 hd hi (hL.at hl) (kk l p e s m args below meth c Q G F E H locs arr hR hS hL)
theorem z_lload {M : zM} {d mc ms pc q : Nat} {ls : zL} {st : List Value} {h : zH} {k n : Nat} {X : zX} {i : Nat} {x : Int64} (hd : decode M.2.1 pc = .ok (.lload i, 2)) (hl : ls[i]? = some (some (.long x))) (hq : pc + 2 = q) (kk : ZW M d mc ms q ls (.long x :: st) h k n X) : ZW M d mc ms pc ls st h k n X := by
  subst hq
  intro l p e s m args below meth c Q G F E H locs arr hR hS hL
  exact lv_lload F.1 F.2.1 hd (hL.at hl) (kk l p e s m args below meth c Q G F E H locs arr hR hS hL)
theorem z_aload_n {M : zM} {d mc ms pc q : Nat} {ls : zL} {st : List Value} {h : zH} {k n : Nat} {X : zX} {w : Fin 4} {i : Nat} {x : Nat} (hd : decode M.2.1 pc = .ok (.aload_n w, 1)) (hi : (w : Nat) = i) (hl : ls[i]? = some (some (.ref x))) (hq : pc + 1 = q) (kk : ZW M d mc ms q ls (.ref x :: st) h k n X) : ZW M d mc ms pc ls st h k n X := by
  subst hq
  intro l p e s m args below meth c Q G F E H locs arr hR hS hL
  exact lv_aload_n F.1 F.2.1 hd hi (hL.at hl) (kk l p e s m args below meth c Q G F E H locs arr hR hS hL)
theorem z_aload {M : zM} {d mc ms pc q : Nat} {ls : zL} {st : List Value} {h : zH} {k n : Nat} {X : zX} {i : Nat} {x : Nat} (hd : decode M.2.1 pc = .ok (.aload i, 2)) (hl : ls[i]? = some (some (.ref x))) (hq : pc + 2 = q) (kk : ZW M d mc ms q ls (.ref x :: st) h k n X) : ZW M d mc ms pc ls st h k n X := by
  subst hq
  intro l p e s m args below meth c Q G F E H locs arr hR hS hL
  exact lv_aload F.1 F.2.1 hd (hL.at hl) (kk l p e s m args below meth c Q G F E H locs arr hR hS hL)
theorem z_istore_n {M : zM} {d mc ms pc q : Nat} {ls : zL} {st : List Value} {h : zH} {k n : Nat} {X : zX} {w : Fin 4} {i : Nat} {ls' : zL} {x : Int32} (hd : decode M.2.1 pc = .ok (.istore_n w, 1)) (hi : (w : Nat) = i) (hn : i < M.2.2.1) (hs : zset1 ls i (.int x) = ls') (hq : pc + 1 = q) (kk : ZW M d mc ms q ls' st h k n X) : ZW M d mc ms pc ls (.int x :: st) h k n X := by
  subst hq
  subst hs
  intro l p e s m args below meth c Q G F E H locs arr hR hS hL
  exact lv_istore_n F.1 F.2.1 hd hi hL hn rfl (fun arr' hL' => kk l p e s m args below meth c Q G F E H locs arr' hR hS (zLs.set1 hL'))
theorem z_istore {M : zM} {d mc ms pc q : Nat} {ls : zL} {st : List Value} {h : zH} {k n : Nat} {X : zX} {i : Nat} {ls' : zL} {x : Int32} (hd : decode M.2.1 pc = .ok (.istore i, 2)) (hn : i < M.2.2.1) (hs : zset1 ls i (.int x) = ls') (hq : pc + 2 = q) (kk : ZW M d mc ms q ls' st h k n X) : ZW M d mc ms pc ls (.int x :: st) h k n X := by
  subst hq
  subst hs
  intro l p e s m args below meth c Q G F E H locs arr hR hS hL
  exact lv_istore F.1 F.2.1 hd hL hn rfl (fun arr' hL' => kk l p e s m args below meth c Q G F E H locs arr' hR hS (zLs.set1 hL'))
theorem z_astore_n {M : zM} {d mc ms pc q : Nat} {ls : zL} {st : List Value} {h : zH} {k n : Nat} {X : zX} {w : Fin 4} {i : Nat} {ls' : zL} {x : Nat} (hd : decode M.2.1 pc = .ok (.astore_n w, 1)) (hi : (w : Nat) = i) (hn : i < M.2.2.1) (hs : zset1 ls i (.ref x) = ls') (hq : pc + 1 = q) (kk : ZW M d mc ms q ls' st h k n X) : ZW M d mc ms pc ls (.ref x :: st) h k n X := by
  subst hq
  subst hs
  intro l p e s m args below meth c Q G F E H locs arr hR hS hL
  exact lv_astore_n F.1 F.2.1 hd hi hL hn rfl (fun arr' hL' => kk l p e s m args below meth c Q G F E H locs arr' hR hS (zLs.set1 hL'))
theorem z_astore {M : zM} {d mc ms pc q : Nat} {ls : zL} {st : List Value} {h : zH} {k n : Nat} {X : zX} {i : Nat} {ls' : zL} {x : Nat} (hd : decode M.2.1 pc = .ok (.astore i, 2)) (hn : i < M.2.2.1) (hs : zset1 ls i (.ref x) = ls') (hq : pc + 2 = q) (kk : ZW M d mc ms q ls' st h k n X) : ZW M d mc ms pc ls (.ref x :: st) h k n X := by
  subst hq
  subst hs
  intro l p e s m args below meth c Q G F E H locs arr hR hS hL
  exact lv_astore F.1 F.2.1 hd hL hn rfl (fun arr' hL' => kk l p e s m args below meth c Q G F E H locs arr' hR hS (zLs.set1 hL'))
theorem z_lstore_n {M : zM} {d mc ms pc q : Nat} {ls : zL} {st : List Value} {h : zH} {k n : Nat} {X : zX} {w : Fin 4} {i : Nat} {ls' : zL} {x : Int64} (hd : decode M.2.1 pc = .ok (.lstore_n w, 1)) (hi : (w : Nat) = i) (hn : i + 1 < M.2.2.1) (hs : zset2 ls i (.long x) = ls') (hq : pc + 1 = q) (kk : ZW M d mc ms q ls' st h k n X) : ZW M d mc ms pc ls (.long x :: st) h k n X := by
  subst hq
  subst hs
  intro l p e s m args below meth c Q G F E H locs arr hR hS hL
  exact lv_lstore_n F.1 F.2.1 hd hi hL hn rfl (fun arr' hL' => kk l p e s m args below meth c Q G F E H locs arr' hR hS (zLs.set2 hL'))
theorem z_lstore {M : zM} {d mc ms pc q : Nat} {ls : zL} {st : List Value} {h : zH} {k n : Nat} {X : zX} {i : Nat} {ls' : zL} {x : Int64} (hd : decode M.2.1 pc = .ok (.lstore i, 2)) (hn : i + 1 < M.2.2.1) (hs : zset2 ls i (.long x) = ls') (hq : pc + 2 = q) (kk : ZW M d mc ms q ls' st h k n X) : ZW M d mc ms pc ls (.long x :: st) h k n X := by
  subst hq
  subst hs
  intro l p e s m args below meth c Q G F E H locs arr hR hS hL
  exact lv_lstore F.1 F.2.1 hd hL hn rfl (fun arr' hL' => kk l p e s m args below meth c Q G F E H locs arr' hR hS (zLs.set2 hL'))
theorem z_iinc {M : zM} {d mc ms pc q : Nat} {ls : zL} {st : List Value} {h : zH} {k n : Nat} {X : zX} {i : Nat} {z : Int} {ls' : zL} {x v : Int32} (hd : decode M.2.1 pc = .ok (.iinc i z, 3)) (hl : ls[i]? = some (some (.int x))) (hv : x + Int32.ofInt z = v) (hn : i < M.2.2.1) (hs : zset1 ls i (.int v) = ls') (hq : pc + 3 = q) (kk : ZW M d mc ms q ls' st h k n X) : ZW M d mc ms pc ls st h k n X := by
  subst hq
  subst hs
  intro l p e s m args below meth c Q G F E H locs arr hR hS hL
  obtain ⟨w, hw⟩ := List.getElem?_of_mem (zprs_in.mpr ⟨_, hl, rfl⟩ : (i, zv G (.int x)) ∈ zprs G ls)
  exact lv_iinc F.1 F.2.1 hd hL hw hv hn rfl (fun arr' hL' => kk l p e s m args below meth c Q G F E H locs arr' hR hS (zLs.set1 hL'))
theorem z_iadd {M : zM} {d mc ms pc q : Nat} {ls : zL} {st : List Value} {h : zH} {k n : Nat} {X : zX} {x y : Int32} (hd : decode M.2.1 pc = .ok (.iadd, 1))  (hq : pc + 1 = q) (kk : ZW M d mc ms q ls (.int (x + y) :: st) h k n X) : ZW M d mc ms pc ls (.int y :: .int x :: st) h k n X := by
  subst hq
  intro l p e s m args below meth c Q G F E H locs arr hR hS hL
  exact lv_iadd F.1 F.2.1  hd (kk l p e s m args below meth c Q G F E H locs arr hR hS hL)
theorem z_isub {M : zM} {d mc ms pc q : Nat} {ls : zL} {st : List Value} {h : zH} {k n : Nat} {X : zX} {x y : Int32} (hd : decode M.2.1 pc = .ok (.isub, 1))  (hq : pc + 1 = q) (kk : ZW M d mc ms q ls (.int (x - y) :: st) h k n X) : ZW M d mc ms pc ls (.int y :: .int x :: st) h k n X := by
  subst hq
  intro l p e s m args below meth c Q G F E H locs arr hR hS hL
  exact lv_isub F.1 F.2.1  hd (kk l p e s m args below meth c Q G F E H locs arr hR hS hL)
theorem z_imul {M : zM} {d mc ms pc q : Nat} {ls : zL} {st : List Value} {h : zH} {k n : Nat} {X : zX} {x y : Int32} (hd : decode M.2.1 pc = .ok (.imul, 1))  (hq : pc + 1 = q) (kk : ZW M d mc ms q ls (.int (x * y) :: st) h k n X) : ZW M d mc ms pc ls (.int y :: .int x :: st) h k n X := by
  subst hq
  intro l p e s m args below meth c Q G F E H locs arr hR hS hL
  exact lv_imul F.1 F.2.1  hd (kk l p e s m args below meth c Q G F E H locs arr hR hS hL)
theorem z_iand {M : zM} {d mc ms pc q : Nat} {ls : zL} {st : List Value} {h : zH} {k n : Nat} {X : zX} {x y : Int32} (hd : decode M.2.1 pc = .ok (.iand, 1))  (hq : pc + 1 = q) (kk : ZW M d mc ms q ls (.int (x &&& y) :: st) h k n X) : ZW M d mc ms pc ls (.int y :: .int x :: st) h k n X := by
  subst hq
  intro l p e s m args below meth c Q G F E H locs arr hR hS hL
  exact lv_iand F.1 F.2.1  hd (kk l p e s m args below meth c Q G F E H locs arr hR hS hL)
theorem z_ior {M : zM} {d mc ms pc q : Nat} {ls : zL} {st : List Value} {h : zH} {k n : Nat} {X : zX} {x y : Int32} (hd : decode M.2.1 pc = .ok (.ior, 1))  (hq : pc + 1 = q) (kk : ZW M d mc ms q ls (.int (x ||| y) :: st) h k n X) : ZW M d mc ms pc ls (.int y :: .int x :: st) h k n X := by
  subst hq
  intro l p e s m args below meth c Q G F E H locs arr hR hS hL
  exact lv_ior F.1 F.2.1  hd (kk l p e s m args below meth c Q G F E H locs arr hR hS hL)
theorem z_ishl {M : zM} {d mc ms pc q : Nat} {ls : zL} {st : List Value} {h : zH} {k n : Nat} {X : zX} {x y : Int32} (hd : decode M.2.1 pc = .ok (.ishl, 1))  (hq : pc + 1 = q) (kk : ZW M d mc ms q ls (.int (x <<< (y &&& 31)) :: st) h k n X) : ZW M d mc ms pc ls (.int y :: .int x :: st) h k n X := by
  subst hq
  intro l p e s m args below meth c Q G F E H locs arr hR hS hL
  exact lv_ishl F.1 F.2.1  hd (kk l p e s m args below meth c Q G F E H locs arr hR hS hL)
theorem z_ishr {M : zM} {d mc ms pc q : Nat} {ls : zL} {st : List Value} {h : zH} {k n : Nat} {X : zX} {x y : Int32} (hd : decode M.2.1 pc = .ok (.ishr, 1))  (hq : pc + 1 = q) (kk : ZW M d mc ms q ls (.int (x >>> (y &&& 31)) :: st) h k n X) : ZW M d mc ms pc ls (.int y :: .int x :: st) h k n X := by
  subst hq
  intro l p e s m args below meth c Q G F E H locs arr hR hS hL
  exact lv_ishr F.1 F.2.1  hd (kk l p e s m args below meth c Q G F E H locs arr hR hS hL)
theorem z_ladd {M : zM} {d mc ms pc q : Nat} {ls : zL} {st : List Value} {h : zH} {k n : Nat} {X : zX} {x y : Int64} (hd : decode M.2.1 pc = .ok (.ladd, 1))  (hq : pc + 1 = q) (kk : ZW M d mc ms q ls (.long (x + y) :: st) h k n X) : ZW M d mc ms pc ls (.long y :: .long x :: st) h k n X := by
  subst hq
  intro l p e s m args below meth c Q G F E H locs arr hR hS hL
  exact lv_ladd F.1 F.2.1  hd (kk l p e s m args below meth c Q G F E H locs arr hR hS hL)
theorem z_lsub {M : zM} {d mc ms pc q : Nat} {ls : zL} {st : List Value} {h : zH} {k n : Nat} {X : zX} {x y : Int64} (hd : decode M.2.1 pc = .ok (.lsub, 1))  (hq : pc + 1 = q) (kk : ZW M d mc ms q ls (.long (x - y) :: st) h k n X) : ZW M d mc ms pc ls (.long y :: .long x :: st) h k n X := by
  subst hq
  intro l p e s m args below meth c Q G F E H locs arr hR hS hL
  exact lv_lsub F.1 F.2.1  hd (kk l p e s m args below meth c Q G F E H locs arr hR hS hL)
theorem z_lmul {M : zM} {d mc ms pc q : Nat} {ls : zL} {st : List Value} {h : zH} {k n : Nat} {X : zX} {x y : Int64} (hd : decode M.2.1 pc = .ok (.lmul, 1))  (hq : pc + 1 = q) (kk : ZW M d mc ms q ls (.long (x * y) :: st) h k n X) : ZW M d mc ms pc ls (.long y :: .long x :: st) h k n X := by
  subst hq
  intro l p e s m args below meth c Q G F E H locs arr hR hS hL
  exact lv_lmul F.1 F.2.1  hd (kk l p e s m args below meth c Q G F E H locs arr hR hS hL)
theorem z_land {M : zM} {d mc ms pc q : Nat} {ls : zL} {st : List Value} {h : zH} {k n : Nat} {X : zX} {x y : Int64} (hd : decode M.2.1 pc = .ok (.land, 1))  (hq : pc + 1 = q) (kk : ZW M d mc ms q ls (.long (x &&& y) :: st) h k n X) : ZW M d mc ms pc ls (.long y :: .long x :: st) h k n X := by
  subst hq
  intro l p e s m args below meth c Q G F E H locs arr hR hS hL
  exact lv_land F.1 F.2.1  hd (kk l p e s m args below meth c Q G F E H locs arr hR hS hL)
theorem z_lor {M : zM} {d mc ms pc q : Nat} {ls : zL} {st : List Value} {h : zH} {k n : Nat} {X : zX} {x y : Int64} (hd : decode M.2.1 pc = .ok (.lor, 1))  (hq : pc + 1 = q) (kk : ZW M d mc ms q ls (.long (x ||| y) :: st) h k n X) : ZW M d mc ms pc ls (.long y :: .long x :: st) h k n X := by
  subst hq
  intro l p e s m args below meth c Q G F E H locs arr hR hS hL
  exact lv_lor F.1 F.2.1  hd (kk l p e s m args below meth c Q G F E H locs arr hR hS hL)
theorem z_idiv {M : zM} {d mc ms pc q : Nat} {ls : zL} {st : List Value} {h : zH} {k n : Nat} {X : zX} {x y : Int32} (hd : decode M.2.1 pc = .ok (.idiv, 1)) (hne : ¬ y = 0) (hq : pc + 1 = q) (kk : ZW M d mc ms q ls (.int (x / y) :: st) h k n X) : ZW M d mc ms pc ls (.int y :: .int x :: st) h k n X := by
  subst hq
  intro l p e s m args below meth c Q G F E H locs arr hR hS hL
  exact lv_idiv F.1 F.2.1  hd hne (kk l p e s m args below meth c Q G F E H locs arr hR hS hL)
theorem z_irem {M : zM} {d mc ms pc q : Nat} {ls : zL} {st : List Value} {h : zH} {k n : Nat} {X : zX} {x y : Int32} (hd : decode M.2.1 pc = .ok (.irem, 1)) (hne : ¬ y = 0) (hq : pc + 1 = q) (kk : ZW M d mc ms q ls (.int (x - x / y * y) :: st) h k n X) : ZW M d mc ms pc ls (.int y :: .int x :: st) h k n X := by
  subst hq
  intro l p e s m args below meth c Q G F E H locs arr hR hS hL
  exact lv_irem F.1 F.2.1  hd hne (kk l p e s m args below meth c Q G F E H locs arr hR hS hL)
theorem z_ldiv {M : zM} {d mc ms pc q : Nat} {ls : zL} {st : List Value} {h : zH} {k n : Nat} {X : zX} {x y : Int64} (hd : decode M.2.1 pc = .ok (.ldiv, 1)) (hne : ¬ y = 0) (hq : pc + 1 = q) (kk : ZW M d mc ms q ls (.long (x / y) :: st) h k n X) : ZW M d mc ms pc ls (.long y :: .long x :: st) h k n X := by
  subst hq
  intro l p e s m args below meth c Q G F E H locs arr hR hS hL
  exact lv_ldiv F.1 F.2.1  hd hne (kk l p e s m args below meth c Q G F E H locs arr hR hS hL)
theorem z_ineg {M : zM} {d mc ms pc q : Nat} {ls : zL} {st : List Value} {h : zH} {k n : Nat} {X : zX} {x : Int32} (hd : decode M.2.1 pc = .ok (.ineg, 1))  (hq : pc + 1 = q) (kk : ZW M d mc ms q ls (.int (-x) :: st) h k n X) : ZW M d mc ms pc ls (.int x :: st) h k n X := by
  subst hq
  intro l p e s m args below meth c Q G F E H locs arr hR hS hL
  exact lv_ineg F.1 F.2.1  hd (kk l p e s m args below meth c Q G F E H locs arr hR hS hL)
theorem z_i2l {M : zM} {d mc ms pc q : Nat} {ls : zL} {st : List Value} {h : zH} {k n : Nat} {X : zX} {x : Int32} (hd : decode M.2.1 pc = .ok (.i2l, 1))  (hq : pc + 1 = q) (kk : ZW M d mc ms q ls (.long (x.toInt64) :: st) h k n X) : ZW M d mc ms pc ls (.int x :: st) h k n X := by
  subst hq
  intro l p e s m args below meth c Q G F E H locs arr hR hS hL
  exact lv_i2l F.1 F.2.1  hd rfl (kk l p e s m args below meth c Q G F E H locs arr hR hS hL)
theorem z_l2i {M : zM} {d mc ms pc q : Nat} {ls : zL} {st : List Value} {h : zH} {k n : Nat} {X : zX} {x : Int64} (hd : decode M.2.1 pc = .ok (.l2i, 1))  (hq : pc + 1 = q) (kk : ZW M d mc ms q ls (.int (x.toInt32) :: st) h k n X) : ZW M d mc ms pc ls (.long x :: st) h k n X := by
  subst hq
  intro l p e s m args below meth c Q G F E H locs arr hR hS hL
  exact lv_l2i F.1 F.2.1  hd rfl (kk l p e s m args below meth c Q G F E H locs arr hR hS hL)
theorem z_i2b {M : zM} {d mc ms pc q : Nat} {ls : zL} {st : List Value} {h : zH} {k n : Nat} {X : zX} {x : Int32} (hd : decode M.2.1 pc = .ok (.i2b, 1))  (hq : pc + 1 = q) (kk : ZW M d mc ms q ls (.int (x.toInt8.toInt32) :: st) h k n X) : ZW M d mc ms pc ls (.int x :: st) h k n X := by
  subst hq
  intro l p e s m args below meth c Q G F E H locs arr hR hS hL
  exact lv_i2b F.1 F.2.1  hd rfl (kk l p e s m args below meth c Q G F E H locs arr hR hS hL)
theorem z_i2s {M : zM} {d mc ms pc q : Nat} {ls : zL} {st : List Value} {h : zH} {k n : Nat} {X : zX} {x : Int32} (hd : decode M.2.1 pc = .ok (.i2s, 1))  (hq : pc + 1 = q) (kk : ZW M d mc ms q ls (.int (x.toInt16.toInt32) :: st) h k n X) : ZW M d mc ms pc ls (.int x :: st) h k n X := by
  subst hq
  intro l p e s m args below meth c Q G F E H locs arr hR hS hL
  exact lv_i2s F.1 F.2.1  hd rfl (kk l p e s m args below meth c Q G F E H locs arr hR hS hL)
theorem z_i2c {M : zM} {d mc ms pc q : Nat} {ls : zL} {st : List Value} {h : zH} {k n : Nat} {X : zX} {x : Int32} (hd : decode M.2.1 pc = .ok (.i2c, 1))  (hq : pc + 1 = q) (kk : ZW M d mc ms q ls (.int ((x.toUInt32 % 65536).toInt32) :: st) h k n X) : ZW M d mc ms pc ls (.int x :: st) h k n X := by
  subst hq
  intro l p e s m args below meth c Q G F E H locs arr hR hS hL
  exact lv_i2c F.1 F.2.1  hd rfl (kk l p e s m args below meth c Q G F E H locs arr hR hS hL)
theorem z_lshl {M : zM} {d mc ms pc q : Nat} {ls : zL} {st : List Value} {h : zH} {k n : Nat} {X : zX} {x : Int64} {y : Int32} (hd : decode M.2.1 pc = .ok (.lshl, 1))  (hq : pc + 1 = q) (kk : ZW M d mc ms q ls (.long (x <<< (y.toInt64 &&& 63)) :: st) h k n X) : ZW M d mc ms pc ls (.int y :: .long x :: st) h k n X := by
  subst hq
  intro l p e s m args below meth c Q G F E H locs arr hR hS hL
  exact lv_lshl F.1 F.2.1  hd rfl (kk l p e s m args below meth c Q G F E H locs arr hR hS hL)
theorem z_lshr {M : zM} {d mc ms pc q : Nat} {ls : zL} {st : List Value} {h : zH} {k n : Nat} {X : zX} {x : Int64} {y : Int32} (hd : decode M.2.1 pc = .ok (.lshr, 1))  (hq : pc + 1 = q) (kk : ZW M d mc ms q ls (.long (x >>> (y.toInt64 &&& 63)) :: st) h k n X) : ZW M d mc ms pc ls (.int y :: .long x :: st) h k n X := by
  subst hq
  intro l p e s m args below meth c Q G F E H locs arr hR hS hL
  exact lv_lshr F.1 F.2.1  hd rfl (kk l p e s m args below meth c Q G F E H locs arr hR hS hL)
theorem z_lushr {M : zM} {d mc ms pc q : Nat} {ls : zL} {st : List Value} {h : zH} {k n : Nat} {X : zX} {x : Int64} {y : Int32} (hd : decode M.2.1 pc = .ok (.lushr, 1))  (hq : pc + 1 = q) (kk : ZW M d mc ms q ls (.long ((x.toUInt64 >>> (y.toInt64.toUInt64 &&& Int64.toUInt64 63)).toInt64) :: st) h k n X) : ZW M d mc ms pc ls (.int y :: .long x :: st) h k n X := by
  subst hq
  intro l p e s m args below meth c Q G F E H locs arr hR hS hL
  exact lv_lushr F.1 F.2.1  hd rfl (kk l p e s m args below meth c Q G F E H locs arr hR hS hL)
theorem z_iushr {M : zM} {d mc ms pc q : Nat} {ls : zL} {st : List Value} {h : zH} {k n : Nat} {X : zX} {x y : Int32} (hd : decode M.2.1 pc = .ok (.iushr, 1))  (hq : pc + 1 = q) (kk : ZW M d mc ms q ls (.int ((x.toUInt32 >>> (y.toUInt32 &&& Int32.toUInt32 31)).toInt32) :: st) h k n X) : ZW M d mc ms pc ls (.int y :: .int x :: st) h k n X := by
  subst hq
  intro l p e s m args below meth c Q G F E H locs arr hR hS hL
  exact lv_iushr F.1 F.2.1  hd rfl (kk l p e s m args below meth c Q G F E H locs arr hR hS hL)
theorem z_lcmp {M : zM} {d mc ms pc q : Nat} {ls : zL} {st : List Value} {h : zH} {k n : Nat} {X : zX} {x y : Int64} (hd : decode M.2.1 pc = .ok (.lcmp, 1))  (hq : pc + 1 = q) (kk : ZW M d mc ms q ls (.int (lg_cmp x y) :: st) h k n X) : ZW M d mc ms pc ls (.long y :: .long x :: st) h k n X := by
  subst hq
  intro l p e s m args below meth c Q G F E H locs arr hR hS hL
  exact W.lcmp F.1 F.2.1  hd (kk l p e s m args below meth c Q G F E H locs arr hR hS hL)
theorem z_dup {M : zM} {d mc ms pc q : Nat} {ls : zL} {st : List Value} {h : zH} {k n : Nat} {X : zX} {v : Value} (hd : decode M.2.1 pc = .ok (.dup, 1)) (hc : v.category = 1) (hq : pc + 1 = q) (kk : ZW M d mc ms q ls (v :: v :: st) h k n X) : ZW M d mc ms pc ls (v :: st) h k n X := by
  subst hq
  intro l p e s m args below meth c Q G F E H locs arr hR hS hL
  exact lv_dup F.1 F.2.1  hd (by rw [zv_cat]; exact hc) (kk l p e s m args below meth c Q G F E H locs arr hR hS hL)
theorem z_dup2 {M : zM} {d mc ms pc q : Nat} {ls : zL} {st : List Value} {h : zH} {k n : Nat} {X : zX} {v w : Value} (hd : decode M.2.1 pc = .ok (.dup2, 1)) (hc : v.category = 1) (hc2 : w.category = 1) (hq : pc + 1 = q) (kk : ZW M d mc ms q ls (v :: w :: v :: w :: st) h k n X) : ZW M d mc ms pc ls (v :: w :: st) h k n X := by
  subst hq
  intro l p e s m args below meth c Q G F E H locs arr hR hS hL
  exact lv_dup2_11 F.1 F.2.1  hd (by rw [zv_cat]; exact hc) (by rw [zv_cat]; exact hc2) (kk l p e s m args below meth c Q G F E H locs arr hR hS hL)
theorem z_pop {M : zM} {d mc ms pc q : Nat} {ls : zL} {st : List Value} {h : zH} {k n : Nat} {X : zX} {v : Value} (hd : decode M.2.1 pc = .ok (.pop, 1)) (hc : v.category = 1) (hq : pc + 1 = q) (kk : ZW M d mc ms q ls (st) h k n X) : ZW M d mc ms pc ls (v :: st) h k n X := by
  subst hq
  intro l p e s m args below meth c Q G F E H locs arr hR hS hL
  exact lv_pop F.1 F.2.1  hd (by rw [zv_cat]; exact hc) (kk l p e s m args below meth c Q G F E H locs arr hR hS hL)
theorem z_icmp_eq {M : zM} {d mc ms pc q : Nat} {ls : zL} {st : List Value} {h : zH} {k n : Nat} {X : zX} {x y : Int32} {off : Int} {tgt : Nat} (hd : decode M.2.1 pc = .ok (.if_icmp .eq off, 3)) (ht : (pc : Int) + off = (tgt : Int)) (hq : pc + 3 = q) (kt : x = y → ZW M d mc ms tgt ls st h k n X) (kf : ¬ x = y → ZW M d mc ms q ls st h k n X) : ZW M d mc ms pc ls (.int y :: .int x :: st) h k n X := by
  subst hq
  intro l p e s m args below meth c Q G F E H locs arr hR hS hL
  exact lv_icmp_eq F.1 F.2.1 hd ht (fun z => kt z l p e s m args below meth c Q G F E H locs arr hR hS hL) (fun z => kf z l p e s m args below meth c Q G F E H locs arr hR hS hL)
theorem z_if_eq {M : zM} {d mc ms pc q : Nat} {ls : zL} {st : List Value} {h : zH} {k n : Nat} {X : zX} {x : Int32} {off : Int} {tgt : Nat} (hd : decode M.2.1 pc = .ok (.ifCond .eq off, 3)) (ht : (pc : Int) + off = (tgt : Int)) (hq : pc + 3 = q) (kt : x = 0 → ZW M d mc ms tgt ls st h k n X) (kf : ¬ x = 0 → ZW M d mc ms q ls st h k n X) : ZW M d mc ms pc ls (.int x :: st) h k n X := by
  subst hq
  intro l p e s m args below meth c Q G F E H locs arr hR hS hL
  exact lv_if_eq F.1 F.2.1 hd ht (fun z => kt z l p e s m args below meth c Q G F E H locs arr hR hS hL) (fun z => kf z l p e s m args below meth c Q G F E H locs arr hR hS hL)
theorem z_icmp_ne {M : zM} {d mc ms pc q : Nat} {ls : zL} {st : List Value} {h : zH} {k n : Nat} {X : zX} {x y : Int32} {off : Int} {tgt : Nat} (hd : decode M.2.1 pc = .ok (.if_icmp .ne off, 3)) (ht : (pc : Int) + off = (tgt : Int)) (hq : pc + 3 = q) (kt : ¬ x = y → ZW M d mc ms tgt ls st h k n X) (kf : x = y → ZW M d mc ms q ls st h k n X) : ZW M d mc ms pc ls (.int y :: .int x :: st) h k n X := by
  subst hq
  intro l p e s m args below meth c Q G F E H locs arr hR hS hL
  exact lv_icmp_ne F.1 F.2.1 hd ht (fun z => kt z l p e s m args below meth c Q G F E H locs arr hR hS hL) (fun z => kf z l p e s m args below meth c Q G F E H locs arr hR hS hL)
theorem z_if_ne {M : zM} {d mc ms pc q : Nat} {ls : zL} {st : List Value} {h : zH} {k n : Nat} {X : zX} {x : Int32} {off : Int} {tgt : Nat} (hd : decode M.2.1 pc = .ok (.ifCond .ne off, 3)) (ht : (pc : Int) + off = (tgt : Int)) (hq : pc + 3 = q) (kt : ¬ x = 0 → ZW M d mc ms tgt ls st h k n X) (kf : x = 0 → ZW M d mc ms q ls st h k n X) : ZW M d mc ms pc ls (.int x :: st) h k n X := by
  subst hq
  intro l p e s m args below meth c Q G F E H locs arr hR hS hL
  exact lv_if_ne F.1 F.2.1 hd ht (fun z => kt z l p e s m args below meth c Q G F E H locs arr hR hS hL) (fun z => kf z l p e s m args below meth c Q G F E H locs arr hR hS hL)
theorem z_icmp_lt {M : zM} {d mc ms pc q : Nat} {ls : zL} {st : List Value} {h : zH} {k n : Nat} {X : zX} {x y : Int32} {off : Int} {tgt : Nat} (hd : decode M.2.1 pc = .ok (.if_icmp .lt off, 3)) (ht : (pc : Int) + off = (tgt : Int)) (hq : pc + 3 = q) (kt : x < y → ZW M d mc ms tgt ls st h k n X) (kf : ¬ x < y → ZW M d mc ms q ls st h k n X) : ZW M d mc ms pc ls (.int y :: .int x :: st) h k n X := by
  subst hq
  intro l p e s m args below meth c Q G F E H locs arr hR hS hL
  exact lv_icmp_lt F.1 F.2.1 hd ht (fun z => kt z l p e s m args below meth c Q G F E H locs arr hR hS hL) (fun z => kf z l p e s m args below meth c Q G F E H locs arr hR hS hL)
theorem z_if_lt {M : zM} {d mc ms pc q : Nat} {ls : zL} {st : List Value} {h : zH} {k n : Nat} {X : zX} {x : Int32} {off : Int} {tgt : Nat} (hd : decode M.2.1 pc = .ok (.ifCond .lt off, 3)) (ht : (pc : Int) + off = (tgt : Int)) (hq : pc + 3 = q) (kt : x < 0 → ZW M d mc ms tgt ls st h k n X) (kf : ¬ x < 0 → ZW M d mc ms q ls st h k n X) : ZW M d mc ms pc ls (.int x :: st) h k n X := by
  subst hq
  intro l p e s m args below meth c Q G F E H locs arr hR hS hL
  exact lv_if_lt F.1 F.2.1 hd ht (fun z => kt z l p e s m args below meth c Q G F E H locs arr hR hS hL) (fun z => kf z l p e s m args below meth c Q G F E H locs arr hR hS hL)
theorem z_icmp_ge {M : zM} {d mc ms pc q : Nat} {ls : zL} {st : List Value} {h : zH} {k n : Nat} {X : zX} {x y : Int32} {off : Int} {tgt : Nat} (hd : decode M.2.1 pc = .ok (.if_icmp .ge off, 3)) (ht : (pc : Int) + off = (tgt : Int)) (hq : pc + 3 = q) (kt : y ≤ x → ZW M d mc ms tgt ls st h k n X) (kf : ¬ y ≤ x → ZW M d mc ms q ls st h k n X) : ZW M d mc ms pc ls (.int y :: .int x :: st) h k n X := by
  subst hq
  intro l p e s m args below meth c Q G F E H locs arr hR hS hL
  exact lv_icmp_ge F.1 F.2.1 hd ht (fun z => kt z l p e s m args below meth c Q G F E H locs arr hR hS hL) (fun z => kf z l p e s m args below meth c Q G F E H locs arr hR hS hL)
theorem z_if_ge {M : zM} {d mc ms pc q : Nat} {ls : zL} {st : List Value} {h : zH} {k n : Nat} {X : zX} {x : Int32} {off : Int} {tgt : Nat} (hd : decode M.2.1 pc = .ok (.ifCond .ge off, 3)) (ht : (pc : Int) + off = (tgt : Int)) (hq : pc + 3 = q) (kt : 0 ≤ x → ZW M d mc ms tgt ls st h k n X) (kf : ¬ 0 ≤ x → ZW M d mc ms q ls st h k n X) : ZW M d mc ms pc ls (.int x :: st) h k n X := by
  subst hq
  intro l p e s m args below meth c Q G F E H locs arr hR hS hL
  exact lv_if_ge F.1 F.2.1 hd ht (fun z => kt z l p e s m args below meth c Q G F E H locs arr hR hS hL) (fun z => kf z l p e s m args below meth c Q G F E H locs arr hR hS hL)
theorem z_icmp_gt {M : zM} {d mc ms pc q : Nat} {ls : zL} {st : List Value} {h : zH} {k n : Nat} {X : zX} {x y : Int32} {off : Int} {tgt : Nat} (hd : decode M.2.1 pc = .ok (.if_icmp .gt off, 3)) (ht : (pc : Int) + off = (tgt : Int)) (hq : pc + 3 = q) (kt : y < x → ZW M d mc ms tgt ls st h k n X) (kf : ¬ y < x → ZW M d mc ms q ls st h k n X) : ZW M d mc ms pc ls (.int y :: .int x :: st) h k n X := by
  subst hq
  intro l p e s m args below meth c Q G F E H locs arr hR hS hL
  exact lv_icmp_gt F.1 F.2.1 hd ht (fun z => kt z l p e s m args below meth c Q G F E H locs arr hR hS hL) (fun z => kf z l p e s m args below meth c Q G F E H locs arr hR hS hL)
theorem z_if_gt {M : zM} {d mc ms pc q : Nat} {ls : zL} {st : List Value} {h : zH} {k n : Nat} {X : zX} {x : Int32} {off : Int} {tgt : Nat} (hd : decode M.2.1 pc = .ok (.ifCond .gt off, 3)) (ht : (pc : Int) + off = (tgt : Int)) (hq : pc + 3 = q) (kt : 0 < x → ZW M d mc ms tgt ls st h k n X) (kf : ¬ 0 < x → ZW M d mc ms q ls st h k n X) : ZW M d mc ms pc ls (.int x :: st) h k n X := by
  subst hq
  intro l p e s m args below meth c Q G F E H locs arr hR hS hL
  exact lv_if_gt F.1 F.2.1 hd ht (fun z => kt z l p e s m args below meth c Q G F E H locs arr hR hS hL) (fun z => kf z l p e s m args below meth c Q G F E H locs arr hR hS hL)
theorem z_icmp_le {M : zM} {d mc ms pc q : Nat} {ls : zL} {st : List Value} {h : zH} {k n : Nat} {X : zX} {x y : Int32} {off : Int} {tgt : Nat} (hd : decode M.2.1 pc = .ok (.if_icmp .le off, 3)) (ht : (pc : Int) + off = (tgt : Int)) (hq : pc + 3 = q) (kt : x ≤ y → ZW M d mc ms tgt ls st h k n X) (kf : ¬ x ≤ y → ZW M d mc ms q ls st h k n X) : ZW M d mc ms pc ls (.int y :: .int x :: st) h k n X := by
  subst hq
  intro l p e s m args below meth c Q G F E H locs arr hR hS hL
  exact lv_icmp_le F.1 F.2.1 hd ht (fun z => kt z l p e s m args below meth c Q G F E H locs arr hR hS hL) (fun z => kf z l p e s m args below meth c Q G F E H locs arr hR hS hL)
theorem z_if_le {M : zM} {d mc ms pc q : Nat} {ls : zL} {st : List Value} {h : zH} {k n : Nat} {X : zX} {x : Int32} {off : Int} {tgt : Nat} (hd : decode M.2.1 pc = .ok (.ifCond .le off, 3)) (ht : (pc : Int) + off = (tgt : Int)) (hq : pc + 3 = q) (kt : x ≤ 0 → ZW M d mc ms tgt ls st h k n X) (kf : ¬ x ≤ 0 → ZW M d mc ms q ls st h k n X) : ZW M d mc ms pc ls (.int x :: st) h k n X := by
  subst hq
  intro l p e s m args below meth c Q G F E H locs arr hR hS hL
  exact lv_if_le F.1 F.2.1 hd ht (fun z => kt z l p e s m args below meth c Q G F E H locs arr hR hS hL) (fun z => kf z l p e s m args below meth c Q G F E H locs arr hR hS hL)
theorem z_goto {M : zM} {d mc ms pc q : Nat} {ls : zL} {st : List Value} {h : zH} {k n : Nat} {X : zX} {off : Int} {tgt : Nat} (hd : decode M.2.1 pc = .ok (.goto off, 3)) (ht : (pc : Int) + off = (tgt : Int)) (kk : ZW M d mc ms tgt ls st h k n X) : ZW M d mc ms pc ls st h k n X := by
  intro l p e s m args below meth c Q G F E H locs arr hR hS hL
  exact lv_goto F.1 F.2.1 hd ht (kk l p e s m args below meth c Q G F E H locs arr hR hS hL)
theorem z_lookup {M : zM} {d mc ms pc q : Nat} {ls : zL} {st : List Value} {h : zH} {k n : Nat} {X : zX} {x : Int32} {dflt : Int} {ps : Array (Int × Int)} {len : Nat} {off : Int} {tgt : Nat} (hd : decode M.2.1 pc = .ok (.lookupswitch dflt ps, len)) (hp : (ps.toList.zip (ps.toList.drop 1)).all (fun (a, next) => a.1 < next.1) = true) (ho : Op.lookupswitch.offset ps.toList dflt x.toInt = off) (ht : (pc : Int) + off = (tgt : Int)) (kk : ZW M d mc ms tgt ls st h k n X) : ZW M d mc ms pc ls (.int x :: st) h k n X := by
  intro l p e s m args below meth c Q G F E H locs arr hR hS hL
  exact lv_lookup F.1 F.2.1 hd hp ho ht (kk l p e s m args below meth c Q G F E H locs arr hR hS hL)
theorem z_tableOut {M : zM} {d mc ms pc q : Nat} {ls : zL} {st : List Value} {h : zH} {k n : Nat} {X : zX} {x : Int32} {dflt lo hi : Int} {offs : Array Int} {len : Nat} {tgt : Nat} (hd : decode M.2.1 pc = .ok (.tableswitch dflt lo hi offs, len)) (hx : x.toInt < lo ∨ hi < x.toInt) (ht : (pc : Int) + dflt = (tgt : Int)) (kk : ZW M d mc ms tgt ls st h k n X) : ZW M d mc ms pc ls (.int x :: st) h k n X := by
  intro l p e s m args below meth c Q G F E H locs arr hR hS hL
  exact lv_tableOut F.1 F.2.1 hd hx ht (kk l p e s m args below meth c Q G F E H locs arr hR hS hL)
theorem z_tableIn {M : zM} {d mc ms pc q : Nat} {ls : zL} {st : List Value} {h : zH} {k n : Nat} {X : zX} {x : Int32} {dflt lo hi : Int} {offs : Array Int} {len : Nat} {off : Int} {tgt : Nat} (hd : decode M.2.1 pc = .ok (.tableswitch dflt lo hi offs, len)) (h1 : ¬ x.toInt < lo) (h2 : ¬ hi < x.toInt) (ho : offs[(x.toInt - lo).toNat]? = some off) (ht : (pc : Int) + off = (tgt : Int)) (kk : ZW M d mc ms tgt ls st h k n X) : ZW M d mc ms pc ls (.int x :: st) h k n X := by
  intro l p e s m args below meth c Q G F E H locs arr hR hS hL
  exact lv_tableIn F.1 F.2.1 hd h1 h2 ho ht (kk l p e s m args below meth c Q G F E H locs arr hR hS hL)
theorem z_ret {M : zM} {d mc ms pc q : Nat} {ls : zL} {st : List Value} {h : zH} {k n : Nat} {X : zX} {r : Option Value} (hf : zFin M pc r) (hX : X = (r, h)) (hk : k ≤ mc) (hn : n ≤ ms) (hst : st = r.toList) : ZW M d mc ms pc ls st h k n X := by
  intro l p e s m args below meth c Q G F E H locs arr hR hS hL
  subst hX
  subst hst
  refine W.widen hk hn ?_
  have := E H locs arr pc hf hR hS
  cases r <;> exact this
theorem z_ireturn {M : zM} {d mc ms pc q : Nat} {ls : zL} {st : List Value} {h : zH} {k n : Nat} {X : zX} {ty : FieldType} {v : Int32} (hd : decode M.2.1 pc = .ok (.ireturn, 1)) (hr : M.2.2.2 = some ty) (hn : narrow ty (.int v) = .int v) (hX : X = (some (.int v), h)) (hk : k ≤ mc) (hm : n ≤ ms) : ZW M d mc ms pc ls [.int v] h k n X :=
  z_ret (q := 0) (r := some (.int v)) (Or.inr (Or.inl ⟨ty, v, hr, rfl, hn, hd⟩)) hX hk hm rfl
theorem z_lreturn {M : zM} {d mc ms pc q : Nat} {ls : zL} {st : List Value} {h : zH} {k n : Nat} {X : zX} {v : Int64} (hd : decode M.2.1 pc = .ok (.lreturn, 1)) (hr : M.2.2.2 = some .long) (hX : X = (some (.long v), h)) (hk : k ≤ mc) (hm : n ≤ ms) : ZW M d mc ms pc ls [.long v] h k n X :=
  z_ret (q := 0) (r := some (.long v)) (Or.inr (Or.inr (Or.inl ⟨v, hr, rfl, hd⟩))) hX hk hm rfl
theorem z_areturn {M : zM} {d mc ms pc q : Nat} {ls : zL} {st : List Value} {h : zH} {k n : Nat} {X : zX} {nm : String} {a : Nat} (hd : decode M.2.1 pc = .ok (.areturn, 1)) (hr : M.2.2.2 = some (.object nm)) (hX : X = (some (.ref a), h)) (hk : k ≤ mc) (hm : n ≤ ms) : ZW M d mc ms pc ls [.ref a] h k n X :=
  z_ret (q := 0) (r := some (.ref a)) (Or.inr (Or.inr (Or.inr ⟨nm, a, hr, rfl, hd⟩))) hX hk hm rfl
theorem z_return {M : zM} {d mc ms pc q : Nat} {ls : zL} {st : List Value} {h : zH} {k n : Nat} {X : zX} (hd : decode M.2.1 pc = .ok (.return_, 1)) (hr : M.2.2.2 = none) (hX : X = (none, h)) (hk : k ≤ mc) (hm : n ≤ ms) : ZW M d mc ms pc ls [] h k n X :=
  z_ret (q := 0) (r := none) (Or.inl ⟨hr, rfl, hd⟩) hX hk hm rfl
end
section
/-! ===== Z rules of the heap ===== -/
theorem zRep.lt {G : zG} {h : zH} {H : Heap} (hR : zRep G h H) {a : Nat} {e : zE} (he : h[a]? = some e) : zA G (zal G a) := by
  have h1 := (List.getElem?_eq_some_iff.mp he).1
  rw [zal_lt (by have := hR.2.2; omega)]
  show G.1 ≤ G.1 + a
  omega
theorem zRep.set {G : zG} {h : zH} {H H1 : Heap} (hR : zRep G h H) {a : Nat} {e0 e : zE} (he : h[a]? = some e0) (h1 : va_at G.2.2.2.1 vwCl (zal G a, zc G e) H1) (hz : H1.size = H.size) (oq : ∀ q : Nat, q ≠ zal G a → H1[q]? = H[q]?) : zRep G (h.set a e) H1 := by
  refine ⟨?_, ?_, ?_⟩
  · rw [zw_set]
    exact hR.1.set (zw_D hR.2.2) (zw_at he) h1 oq
  · rw [hz, List.length_set]; exact hR.2.1
  · rw [List.length_set]; exact hR.2.2
/-- a field of one of the classes, as class own links it -/
def zFl (own : String) (index ci kx : Nat) : Prop := ∃ (C : String) (T : u_T) (N : Nat), vwCl[ci]? = some (C, T, N) ∧ (∀ w ∈ u_ws C T N, w ∈ zts) ∧ kx < N ∧ Cond.fieldLink own index (T kx).1 (T kx).2.1 (T kx).2.2.1 ∈ zts
def zFp (own : String) (index ci kx : Nat) (ty : FieldType) (fin : Bool) : Prop := ∃ (C : String) (T : u_T) (N : Nat) (ty0 : Nat → FieldType), vwCl[ci]? = some (C, T, N) ∧ (∀ w ∈ u_ws C T N, w ∈ zts) ∧ kx < N ∧ Cond.fieldLink own index (T kx).1 (T kx).2.1 (T kx).2.2.1 ∈ zts ∧ (∀ k, k < N → parseFieldDescriptor (T k).2.2.1 = some (ty0 k)) ∧ (∀ a, a < N → ∀ b, b < N → a ≠ b → (T a).2.1 ≠ (T b).2.1) ∧ parseFieldDescriptor (T kx).2.2.1 = some ty ∧ (T kx).2.2.2 = fin ∧ (fin = true → (T kx).1 = own)
theorem z_getf {M : zM} {d mc ms pc q : Nat} {ls : zL} {st : List Value} {h : zH} {k n : Nat} {X : zX} {index ci kx a : Nat} {fs : List Value} {v : Value} (hd : decode M.2.1 pc = .ok (.getfield index, 3)) (hf : zFl M.1.cls index ci kx) (he : h[a]? = some (.inr (ci, fs))) (hv : fs[kx]? = some v) (hq : pc + 3 = q) (kk : ZW M d mc ms q ls (v :: st) h k n X) : ZW M d mc ms pc ls (.ref a :: st) h k n X := by
  subst hq
  intro l p e s m args below meth c Q G F E H locs arr hR hS hL
  obtain ⟨C, T, N, hc, hin, hk, hw⟩ := hf
  exact va_get F.1 F.2.1 F.2.2.2.2.2.1 hin F.2.2.2.2.1 F.2.2.2.2.2.2.1.1 hR.1 a (zw_at he) hc kx hk (F.2.2.2.2.2.1 _ hw) (fun _ z => z) (v := zv G v) (by rw [List.getElem?_map, hv]; rfl) hd (kk l p e s m args below meth c Q G F E H locs arr hR hS hL)
theorem z_putf {M : zM} {d mc ms pc q : Nat} {ls : zL} {st : List Value} {h : zH} {k n : Nat} {X : zX} {index ci kx a : Nat} {fs : List Value} {v : Value} {ty : FieldType} (hd : decode M.2.1 pc = .ok (.putfield index, 3)) (hf : zFp M.1.cls index ci kx ty false) (he : h[a]? = some (.inr (ci, fs))) (hl : kx < fs.length) (hn : ∀ G : zG, narrow ty (zv G v) = zv G v ∧ fits ty (zv G v) = true) (hq : pc + 3 = q) (kk : ZW M d mc ms q ls st (h.set a (.inr (ci, fs.set kx v))) k n X) : ZW M d mc ms pc ls (v :: .ref a :: st) h k n X := by
  subst hq
  intro l p e s m args below meth c Q G F E H locs arr hR hS hL
  obtain ⟨C, T, N, ty0, hc, hin, hk, hw, hty, hnm, hd9, hfin, -⟩ := hf
  have hts := F.2.2.2.2.2.1
  have hK := F.2.2.2.2.2.2.1.1
  have hap := va_apart (own := M.1.cls) hts hin ty0 hty hnm hK hc
  obtain ⟨r, h1, cell, q1, q2, q3, q4⟩ := hR.1 a _ (zw_at he)
  have hr : r = (C, T, N) := Option.some.inj (h1.symm.trans hc)
  subst hr
  obtain ⟨hS9, hfc, kC, hkC, hkind⟩ := hK.1 ci _ hc
  obtain ⟨cf, kf, fi, f, hi, hsl⟩ := hS9 kx hk
  have hlay := hts _ (hin _ (u_in_lay hk))
  unfold u_lay at hlay
  rw [if_neg (by rw [hfin]; decide)] at hlay
  have hst := (u_facts hfc hkC (u_lays hts hin hk) hi).1
  have h6 := u_store hfc hkC hkind hlay hi hd9 (hn G).1 (hn G).2
  refine W.putK F.1 F.2.1 (f := f) ⟨F.2.2.2.2.1, hts _ hw, ⟨_, _, _, hi⟩, hst⟩ (by rw [q2]; exact h6) q1 q3 (by rw [hsl]; exact k2_hasslot (q4 kx hk)) rfl rfl hd fun H' e1 e2 e3 => ?_
  rw [hsl] at e1 ⊢
  refine kk l p e s m args below meth c Q G F E H' _ arr (hR.set he ⟨_, hc, t_OB.to (V := updV (vp_V (fs.map (zv G))) kx (zv G v)) ⟨_, e1, q2, q3, t_set q4 hap hk (zv G v)⟩ (fun j _ => ?_)⟩ e2 e3) (hS.put e2 e3 (hR.lt he)) hL
  rw [vp_updV_set (by simpa using hl)]
  simp [List.map_set]
theorem z_putF {M : zM} {d mc ms pc q : Nat} {ls : zL} {st : List Value} {h : zH} {k n : Nat} {X : zX} {index ci kx a : Nat} {fs : List Value} {v : Value} {ty : FieldType} (hd : decode M.2.1 pc = .ok (.putfield index, 3)) (hf : zFp M.1.cls index ci kx ty true) (hin9 : M.1.name = "<init>") (he : h[a]? = some (.inr (ci, fs))) (hl : kx < fs.length) (hn : ∀ G : zG, narrow ty (zv G v) = zv G v ∧ fits ty (zv G v) = true) (hq : pc + 3 = q) (kk : ZW M d mc ms q ls st (h.set a (.inr (ci, fs.set kx v))) k n X) : ZW M d mc ms pc ls (v :: .ref a :: st) h k n X := by
  subst hq
  intro l p e s m args below meth c Q G F E H locs arr hR hS hL
  obtain ⟨C, T, N, ty0, hc, hin, hk, hw, hty, hnm, hd9, hfin, hdecl⟩ := hf
  have hts := F.2.2.2.2.2.1
  have hK := F.2.2.2.2.2.2.1.1
  have hap := va_apart (own := M.1.cls) hts hin ty0 hty hnm hK hc
  obtain ⟨r, h1, cell, q1, q2, q3, q4⟩ := hR.1 a _ (zw_at he)
  have hr : r = (C, T, N) := Option.some.inj (h1.symm.trans hc)
  subst hr
  obtain ⟨hS9, hfc, kC, hkC, hkind⟩ := hK.1 ci _ hc
  obtain ⟨cf, kf, fi, f, hi, hsl⟩ := hS9 kx hk
  have hlay := hts _ (hin _ (u_in_lay hk))
  unfold u_lay at hlay
  rw [if_pos hfin] at hlay
  have hst := (u_facts hfc hkC (u_lays hts hin hk) hi).1
  have hown := F.2.2.2.2.1
  have hcf : m.cls = cf := by
    obtain ⟨_, _, c', _, _, _, -, -, hf', -, -, -, hown2, -⟩ := Cond.laysFinal_spec hlay
    have e1 : c' = cf := by have := hi.symm.trans hf'; simp at this; exact this.1.symm
    rw [hdecl rfl] at hown2
    rw [← e1]; exact Option.some.inj (hown.symm.trans hown2)
  have h6 := u_fits hfc hkC hkind (Or.inr hlay) hi hd9 (hn G).1 (hn G).2
  refine W.putFinK F.1 F.2.1 hown (hts _ hw) hi hst hcf (F.2.2.2.2.2.2.2.2.2.1.trans hin9) (by rw [q2]; exact h6) q1 q3 (by rw [hsl]; exact k2_hasslot (q4 kx hk)) rfl rfl hd fun H' e1 e2 e3 => ?_
  rw [hsl] at e1 ⊢
  refine kk l p e s m args below meth c Q G F E H' _ arr (hR.set he ⟨_, hc, t_OB.to (V := updV (vp_V (fs.map (zv G))) kx (zv G v)) ⟨_, e1, q2, q3, t_set q4 hap hk (zv G v)⟩ (fun j _ => ?_)⟩ e2 e3) (hS.put e2 e3 (hR.lt he)) hL
  rw [vp_updV_set (by simpa using hl)]
  simp [List.map_set]
theorem z_iaload {M : zM} {d mc ms pc q : Nat} {ls : zL} {st : List Value} {h : zH} {k n : Nat} {X : zX} {a N : Nat} {i : Int32} {f : Nat → Int32} (hd : decode M.2.1 pc = .ok (.iaload, 1)) (he : h[a]? = some (.inl (0, N, .inl f))) (hi : vp_in i N) (hq : pc + 1 = q) (kk : ZW M d mc ms q ls (.int (f i.toNatClampNeg) :: st) h k n X) : ZW M d mc ms pc ls (.int i :: .ref a :: st) h k n X := by
  subst hq
  intro l p e s m args below meth c Q G F E H locs arr hR hS hL
  exact va_iald F.1 F.2.1 F.2.2.2.2.2.2.1.1 hR.1 a 0 (zw_at he) rfl hi hd (kk l p e s m args below meth c Q G F E H locs arr hR hS hL)
theorem z_laload {M : zM} {d mc ms pc q : Nat} {ls : zL} {st : List Value} {h : zH} {k n : Nat} {X : zX} {a N : Nat} {i : Int32} {f : Nat → Int64} (hd : decode M.2.1 pc = .ok (.laload, 1)) (he : h[a]? = some (.inl (1, N, .inr (.inl f)))) (hi : vp_in i N) (hq : pc + 1 = q) (kk : ZW M d mc ms q ls (.long (f i.toNatClampNeg) :: st) h k n X) : ZW M d mc ms pc ls (.int i :: .ref a :: st) h k n X := by
  subst hq
  intro l p e s m args below meth c Q G F E H locs arr hR hS hL
  exact va_lald F.1 F.2.1 F.2.2.2.2.2.2.1.1 hR.1 a 1 (zw_at he) rfl hi hd (kk l p e s m args below meth c Q G F E H locs arr hR hS hL)
theorem z_zaload {M : zM} {d mc ms pc q : Nat} {ls : zL} {st : List Value} {h : zH} {k n : Nat} {X : zX} {a N : Nat} {i : Int32} {f : Nat → Int32} (hd : decode M.2.1 pc = .ok (.baload, 1)) (he : h[a]? = some (.inl (2, N, .inl f))) (hi : vp_in i N) (hq : pc + 1 = q) (kk : ZW M d mc ms q ls (.int (f i.toNatClampNeg) :: st) h k n X) : ZW M d mc ms pc ls (.int i :: .ref a :: st) h k n X := by
  subst hq
  intro l p e s m args below meth c Q G F E H locs arr hR hS hL
  exact va_zald F.1 F.2.1 F.2.2.2.2.2.2.1.1 hR.1 a 2 (zw_at he) rfl hi hd (kk l p e s m args below meth c Q G F E H locs arr hR hS hL)
theorem z_aaload {M : zM} {d mc ms pc q : Nat} {ls : zL} {st : List Value} {h : zH} {k n : Nat} {X : zX} {kx a N : Nat} {i : Int32} {b : Nat} {f : Nat → Option Nat} (hd : decode M.2.1 pc = .ok (.aaload, 1)) (hkx : kx = 3 ∨ kx = 4 ∨ kx = 5 ∨ kx = 6) (he : h[a]? = some (.inl (kx, N, .inr (.inr (.inr (.inr f)))))) (hi : vp_in i N) (hb : f i.toNatClampNeg = some b) (hq : pc + 1 = q) (kk : ZW M d mc ms q ls (.ref b :: st) h k n X) : ZW M d mc ms pc ls (.int i :: .ref a :: st) h k n X := by
  subst hq
  intro l p e s m args below meth c Q G F E H locs arr hR hS hL
  have hlt : i.toNatClampNeg < N := Nat.not_le.mp fun z => hi (Or.inr z)
  have hcell := hR.1 a _ (zw_at he)
  obtain ⟨ty, hty, hrf⟩ : ∃ ty, (zT G)[kx]? = some (G.2.2.1 kx, ty) ∧ ty.isReference = true := by
    rcases hkx with rfl | rfl | rfl | rfl <;> exact ⟨_, rfl, rfl⟩
  refine W.aald (v := .ref (zal G b)) (ty := ty) F.1 F.2.1 hcell ((F.2.2.2.2.2.2.1.1.2 kx _ hty).1 N (fun j => va_rf ((f j).map (zal G)))) hrf (fun z => by cases z) (by show ¬ (i < 0 ∨ (arrV _ _ _).slots.size ≤ _); rw [arrV_size]; exact hi) (by show (arrV _ _ _).slots[_]? = _; rw [arrV_read _ _ hlt]; show some (va_rf ((f i.toNatClampNeg).map (zal G))) = _; rw [hb]; rfl) rfl rfl hd (kk l p e s m args below meth c Q G F E H locs arr hR hS hL)
theorem z_iastore {M : zM} {d mc ms pc q : Nat} {ls : zL} {st : List Value} {h : zH} {k n : Nat} {X : zX} {a N : Nat} {i : Int32} {x : Int32} {f : Nat → Int32} (hd : decode M.2.1 pc = .ok (.iastore, 1)) (he : h[a]? = some (.inl (0, N, .inl f))) (hi : vp_in i N) (hq : pc + 1 = q) (kk : ZW M d mc ms q ls st (h.set a (.inl (0, N, .inl (upd f i.toNatClampNeg x)))) k n X) : ZW M d mc ms pc ls (.int x :: .int i :: .ref a :: st) h k n X := by
  subst hq
  intro l p e s m args below meth c Q G F E H locs arr hR hS hL
  refine W.iast F.1 F.2.1 (hR.1 a _ (zw_at he)) ((F.2.2.2.2.2.2.1.1.2 0 _ rfl).1 N (fun j => .int (f j))) (fun z => by cases z) (by show ¬ (i < 0 ∨ (arrV _ _ _).slots.size ≤ _); rw [arrV_size]; exact hi) rfl rfl hd fun H1 e1 z oq => ?_
  refine kk l p e s m args below meth c Q G F E H1 _ arr (hR.set he ?_ z oq) (hS.put z oq (hR.lt he)) hL
  show H1[zal G a]? = some (vp_cell (G.2.2.1 0) (N, .inl (upd f i.toNatClampNeg x)))
  rw [e1]
  show some (Cell.setSlot (vp_cell (G.2.2.1 0) (N, .inl f)) _ _) = _
  rw [vp_cell_i, vp_cell_i, arrV_store]
  congr 2
  funext q
  by_cases hq : q = i.toNatClampNeg
  · subst hq
    simp [updV, upd, vp_nar]
    try rfl
  · simp [updV, upd, hq]
theorem z_lastore {M : zM} {d mc ms pc q : Nat} {ls : zL} {st : List Value} {h : zH} {k n : Nat} {X : zX} {a N : Nat} {i : Int32} {x : Int64} {f : Nat → Int64} (hd : decode M.2.1 pc = .ok (.lastore, 1)) (he : h[a]? = some (.inl (1, N, .inr (.inl f)))) (hi : vp_in i N) (hq : pc + 1 = q) (kk : ZW M d mc ms q ls st (h.set a (.inl (1, N, .inr (.inl (vp_updL f i.toNatClampNeg x))))) k n X) : ZW M d mc ms pc ls (.long x :: .int i :: .ref a :: st) h k n X := by
  subst hq
  intro l p e s m args below meth c Q G F E H locs arr hR hS hL
  refine W.last F.1 F.2.1 (hR.1 a _ (zw_at he)) ((F.2.2.2.2.2.2.1.1.2 1 _ rfl).1 N (fun j => .long (f j))) (fun z => by cases z) (by show ¬ (i < 0 ∨ (arrV _ _ _).slots.size ≤ _); rw [arrV_size]; exact hi) rfl rfl hd fun H1 e1 z oq => ?_
  refine kk l p e s m args below meth c Q G F E H1 _ arr (hR.set he ?_ z oq) (hS.put z oq (hR.lt he)) hL
  show H1[zal G a]? = some (vp_cell (G.2.2.1 1) (N, .inr (.inl (vp_updL f i.toNatClampNeg x))))
  rw [e1]
  show some (Cell.setSlot (vp_cell (G.2.2.1 1) (N, .inr (.inl f))) _ _) = _
  rw [vp_cell_l, vp_cell_l, arrV_store]
  congr 2
  funext q
  by_cases hq : q = i.toNatClampNeg
  · subst hq
    simp [updV, vp_updL, vp_nar]
    try rfl
  · simp [updV, vp_updL, hq]
theorem z_zastore {M : zM} {d mc ms pc q : Nat} {ls : zL} {st : List Value} {h : zH} {k n : Nat} {X : zX} {a N : Nat} {i : Int32} {x : Int32} {f : Nat → Int32} (hd : decode M.2.1 pc = .ok (.bastore, 1)) (he : h[a]? = some (.inl (2, N, .inl f))) (hi : vp_in i N) (hq : pc + 1 = q) (kk : ZW M d mc ms q ls st (h.set a (.inl (2, N, .inl (upd f i.toNatClampNeg (vp_nar .boolean x))))) k n X) : ZW M d mc ms pc ls (.int x :: .int i :: .ref a :: st) h k n X := by
  subst hq
  intro l p e s m args below meth c Q G F E H locs arr hR hS hL
  refine W.zast F.1 F.2.1 (hR.1 a _ (zw_at he)) ((F.2.2.2.2.2.2.1.1.2 2 _ rfl).1 N (fun j => .int (f j))) (fun z => by cases z) (by show ¬ (i < 0 ∨ (arrV _ _ _).slots.size ≤ _); rw [arrV_size]; exact hi) rfl rfl hd fun H1 e1 z oq => ?_
  refine kk l p e s m args below meth c Q G F E H1 _ arr (hR.set he ?_ z oq) (hS.put z oq (hR.lt he)) hL
  show H1[zal G a]? = some (vp_cell (G.2.2.1 2) (N, .inl (upd f i.toNatClampNeg (vp_nar .boolean x))))
  rw [e1]
  show some (Cell.setSlot (vp_cell (G.2.2.1 2) (N, .inl f)) _ _) = _
  rw [vp_cell_i, vp_cell_i, arrV_store]
  congr 2
  funext q
  by_cases hq : q = i.toNatClampNeg
  · subst hq
    simp [updV, upd, vp_nar]
    try rfl
  · simp [updV, upd, hq]
theorem z_alen {M : zM} {d mc ms pc q : Nat} {ls : zL} {st : List Value} {h : zH} {k n : Nat} {X : zX} {kx a N : Nat} {x : (Nat → Int32) ⊕ (Nat → Int64) ⊕ (Nat → UInt32) ⊕ (Nat → UInt64) ⊕ (Nat → Option Nat)} (hd : decode M.2.1 pc = .ok (.arraylength, 1)) (hkx : kx < 7) (he : h[a]? = some (.inl (kx, N, x))) (hq : pc + 1 = q) (kk : ZW M d mc ms q ls (.int (Int32.ofNat N) :: st) h k n X) : ZW M d mc ms pc ls (.ref a :: st) h k n X := by
  subst hq
  intro l p e s m args below meth c Q G F E H locs arr hR hS hL
  obtain ⟨ty, hty⟩ : ∃ ty, (zT G)[kx]? = some (G.2.2.1 kx, ty) := by
    match kx, hkx with
    | 0, _ => exact ⟨_, rfl⟩
    | 1, _ => exact ⟨_, rfl⟩
    | 2, _ => exact ⟨_, rfl⟩
    | 3, _ => exact ⟨_, rfl⟩
    | 4, _ => exact ⟨_, rfl⟩
    | 5, _ => exact ⟨_, rfl⟩
    | 6, _ => exact ⟨_, rfl⟩
  have hz : ∃ x2 : vp_A, zc G (.inl (kx, N, x)) = .inl (G.2.2.1 kx, x2) ∧ x2.1 = N := by
    rcases x with x | x | x | x | x <;> exact ⟨_, rfl, rfl⟩
  obtain ⟨x2, hx2, hx3⟩ := hz
  refine va_alen F.1 F.2.1 F.2.2.2.2.2.2.1.1 hR.1 a kx (x := x2) (by rw [zw_at he, hx2]) hty (by rw [hx3]) hd (kk l p e s m args below meth c Q G F E H locs arr hR hS hL)
end
section
/-! ===== Z rules of calls ===== -/
theorem zU_kept {G : zG} {h : zH} {H : Heap} {s U : State} {locs : List Loc} (hK : zK G s) (hS0 : zS G s s.heap) (hb : G.1 ≤ s.heap.size) (hR : zRep G h H) (hS : va_S (zA G) s.heap H locs) (hU : U.heap = H) (hW : s.WarmedH U.vm) : zU G h U :=
  ⟨by rw [hU]; exact hR, hK.warm hW, (by rw [hU]; exact (hS0.kept hS.2.1).warm hW), by rw [hU]; exact Nat.le_trans hb hS.1⟩
theorem zU_blind {G : zG} {h : zH} {av : List Value} : FrameBlind (va_Pc av (zU G h)) := fun a U g mk q => ⟨q.1, q.2.1, q.2.2.1.same rfl, q.2.2.2.1.same rfl, q.2.2.2.2⟩
theorem zts_good {M : zM} (hc : Cond.code M.1 M.2.1 M.2.2.1 M.2.2.2 ∈ zts) : ∀ w ∈ zws M, w ∈ zts ∧ ((w.onTables && w.keeps) = true ∨ ∃ ty, w = .arrayClass ty) := by
  intro w hw
  have h1 : w ∈ zts := by
    rcases List.mem_cons.mp hw with rfl | h
    · exact hc
    · exact h
  exact ⟨h1, good_of_word (List.mem_filter.mp h1).2⟩
/-- what a call needs to know of a method -/
def zMk (M : zM) (np : Nat) : Prop := (M.1.cls ≠ "java/lang/invoke/MethodHandle" ∧ M.1.cls ≠ "java/lang/invoke/VarHandle") ∧ (parseMethodDescriptor M.1.desc).map (fun d => d.parameters.length) = some np ∧ M.2.2.1 ≤ 17 ∧ Cond.code M.1 M.2.1 M.2.2.1 M.2.2.2 ∈ zts ∧ Cond.initialized M.1.cls ∈ zts
theorem zMk.sig {M : zM} {np : Nat} (hm : zMk M np) : ∀ sig, parseMethodDescriptor M.1.desc = some sig → np = sig.parameters.length := by
  intro sig h
  have h2 := hm.2.1
  rw [h] at h2
  exact (Option.some.inj h2).symm
theorem zcatsum (G : zG) (st : List Value) : ((st.map (zv G)).map fun v => v.category).sum = (st.map fun v => v.category).sum := by
  rw [List.map_map]
  congr 1
  apply List.map_congr_left
  intro v _
  exact zv_cat G v
theorem z_back {p : Program} {l : Launch} {e : Env} {R : Room} {s : State} {m : MethodId} {args : Array Value} {below : List Frame} {meth : Method} {c : Code} {H : Heap} {locs : List Loc} {k n mc1 ms1 pc : Nat} {Q : State → Prop} {arr : Array Slot} {st0 rest : List Value} {G : zG} {X1 : zX} {a : Array Value}
    (hr : va_Run p l e R s m args below meth c H locs k n mc1 ms1 (F0 m pc arr st0) rest (zQ G X1 a) (zA G)) (hS : va_S (zA G) s.heap H locs)
    (kk : ∀ (H1 : Heap) (locs1 : List Loc), zRep G X1.2 H1 → va_S (zA G) s.heap H1 locs1 → W p l e R s m args below meth c H1 locs1 (k + mc1) (n + ms1) Q (F0 m (pc + 3) arr ((X1.1.map (zv G)).toList ++ rest))) : W p l e R s m args below meth c H locs k n Q (F0 m pc arr st0) := by
  intro T hT X
  obtain ⟨v, st₀, t, T', L, h0, X', hL, e1, e2, ⟨⟨hv, hp⟩, hz, hk⟩, st⟩ := hr T hT X
  have hv2 : v = X1.1.map (zv G) := by injection hv
  subst hv2
  rw [h0] at hz hk
  obtain ⟨t2, a1, b1⟩ := kk T'.heap (locs ++ L) (by rw [e1]; exact hp)
    ⟨Nat.le_trans hS.1 (by rw [e1]; exact hz), fun q h1 h2 => by rw [e1, hk q (Nat.lt_of_lt_of_le h1 hS.1) h2]; exact hS.2.1 q h1 h2, fun q hq => by
      rcases List.mem_append.mp hq with h | h
      · exact hS.2.2 q h
      · exact hL q h⟩ T' rfl X'
  exact ⟨t2, st t2 a1, b1⟩
theorem zstk {G : zG} {As rest : List Value} {a : Nat} : (As.reverse ++ .ref a :: rest).map (zv G) = (As.map (zv G)).reverse ++ .ref (zal G a) :: rest.map (zv G) := by
  rw [List.map_append, List.map_reverse]; rfl
theorem zres {G : zG} {r : Option Value} {rest : List Value} : (r.map (zv G)).toList ++ rest.map (zv G) = (r.toList ++ rest).map (zv G) := by
  cases r <;> rfl
theorem zcallB {M M1 : zM} {G : zG} {d mc ms mc1 ms1 np index : Nat} {p : Program} {s : State} {m : MethodId} {args : Array Value} {meth : Method} {c : Code} (F : zF M G p s m args meth c) (hm : zMk M1 np) (hl : Cond.methodLink M.1.cls index M1.1 ∈ zts) : CallB (zR (d + 1) mc ms) s args M.1.cls index M1.1 M1.2.1 M1.2.2.1 M1.2.2.2 (zws M1) (zR d mc1 ms1) mc1 ms1 np :=
  have hts := F.2.2.2.2.2.1
  ⟨rfl, rfl, Nat.le_refl _, by have := hm.2.2.1; show 8 + (M1.2.2.1 + 11) + 36 * d ≤ 36 * (d + 1); omega, pay_in hts (zts_good hm.2.2.2.1), List.mem_cons_self, hts _ hm.2.2.2.1, hts _ hm.2.2.2.2, hm.1, hm.sig, hts _ hl⟩
theorem z_callV {M : zM} {d mc ms pc q : Nat} {ls : zL} {st : List Value} {h : zH} {k n : Nat} {X : zX} {M1 : zM} {mc1 ms1 np index ci a : Nat} {fs As rest : List Value} {X1 : zX} {T : u_T} {N : Nat} (hm : zMk M1 np) (hd : decode M.2.1 pc = .ok (.invokevirtual index, 3)) (hl : Cond.methodLink M.1.cls index M1.1 ∈ zts) (hi : Cond.instanceMethod M1.1 ∈ zts) (hse : Cond.selects M1.1.cls M1.1 M1.1 ∈ zts) (hc : vwCl[ci]? = some (M1.1.cls, T, N)) (he : h[a]? = some (.inr (ci, fs))) (ev : zEv d M1 mc1 ms1 (.ref a :: As) h X1) (hnp : As.length = np) (hrest : (rest.map fun v => v.category).sum ≤ 8) (hst : As.reverse ++ .ref a :: rest = st) (hk : k + mc1 ≤ mc) (hn : n + ms1 ≤ ms) (hq : pc + 3 = q) (kk : ZW M (d + 1) mc ms q ls (X1.1.toList ++ rest) X1.2 (k + mc1) (n + ms1) X) : ZW M (d + 1) mc ms pc ls st h k n X := by
  subst hq
  subst hst
  intro l p e s m args below meth c Q G F E H locs arr hR hS hL
  have hts := F.2.2.2.2.2.1
  rw [zstk]
  refine z_back (X1 := X1) (va_runV (As := As.map (zv G)) (rest := rest.map (zv G)) (b := zal G a) (C := M1.1.cls) ⟨F.1, F.2.1, F.2.2.1, F.2.2.2.2.1, hts⟩ (ev l G) ⟨zcallB F hm hl, hts _ hi, hts _ hse⟩ ⟨zU_blind, va_recv F.2.2.2.2.2.2.1.1 hR.1 hc (zw_at he), fun U hU hW => ⟨rfl, zU_kept F.2.2.2.2.2.2.1 F.2.2.2.2.2.2.2.1 F.2.2.2.2.2.2.2.2.2.2 hR hS hU hW⟩⟩ rfl (by rw [List.length_map]; exact hnp) hL.1 rfl (lv_room (by rw [zcatsum]; exact hrest)) hd ⟨hk, hn⟩) hS fun H1 locs1 hR1 hS1 => ?_
  rw [zres]
  exact kk l p e s m args below meth c Q G F E H1 locs1 arr hR1 hS1 hL
theorem z_callS {M : zM} {d mc ms pc q : Nat} {ls : zL} {st : List Value} {h : zH} {k n : Nat} {X : zX} {M1 : zM} {mc1 ms1 np index : Nat} {As rest : List Value} {X1 : zX} (hm : zMk M1 np) (hd : decode M.2.1 pc = .ok (.invokestatic index, 3)) (hl : Cond.methodLink M.1.cls index M1.1 ∈ zts) (hi : Cond.static M1.1 ∈ zts) (ev : zEv d M1 mc1 ms1 As h X1) (hnp : As.length = np) (hrest : (rest.map fun v => v.category).sum ≤ 8) (hst : As.reverse ++ rest = st) (hk : k + mc1 ≤ mc) (hn : n + ms1 ≤ ms) (hq : pc + 3 = q) (kk : ZW M (d + 1) mc ms q ls (X1.1.toList ++ rest) X1.2 (k + mc1) (n + ms1) X) : ZW M (d + 1) mc ms pc ls st h k n X := by
  subst hq
  subst hst
  intro l p e s m args below meth c Q G F E H locs arr hR hS hL
  have hts := F.2.2.2.2.2.1
  rw [List.map_append, List.map_reverse]
  refine z_back (X1 := X1) (va_runS (As := As.map (zv G)) (rest := rest.map (zv G)) ⟨F.1, F.2.1, F.2.2.1, F.2.2.2.2.1, hts⟩ (ev l G) ⟨zcallB F hm hl, hts _ hi⟩ ⟨zU_blind, fun U hU hW => ⟨rfl, zU_kept F.2.2.2.2.2.2.1 F.2.2.2.2.2.2.2.1 F.2.2.2.2.2.2.2.2.2.2 hR hS hU hW⟩⟩ rfl (by rw [List.length_map]; exact hnp) hL.1 rfl (lv_room (by rw [zcatsum]; exact hrest)) hd ⟨hk, hn⟩) hS fun H1 locs1 hR1 hS1 => ?_
  rw [zres]
  exact kk l p e s m args below meth c Q G F E H1 locs1 arr hR1 hS1 hL
theorem z_callSN {M : zM} {d mc ms pc q : Nat} {ls : zL} {st : List Value} {h : zH} {k n : Nat} {X : zX} {M1 : zM} {mc1 ms1 np index : Nat} {host : String} {As rest : List Value} {X1 : zX} (hm : zMk M1 np) (hd : decode M.2.1 pc = .ok (.invokestatic index, 3)) (hl : (M.1.cls, index, M1.1, host) ∈ zNest) (hi : Cond.static M1.1 ∈ zts) (ev : zEv d M1 mc1 ms1 As h X1) (hnp : As.length = np) (hrest : (rest.map fun v => v.category).sum ≤ 8) (hst : As.reverse ++ rest = st) (hk : k + mc1 ≤ mc) (hn : n + ms1 ≤ ms) (hq : pc + 3 = q) (kk : ZW M (d + 1) mc ms q ls (X1.1.toList ++ rest) X1.2 (k + mc1) (n + ms1) X) : ZW M (d + 1) mc ms pc ls st h k n X := by
  subst hq
  subst hst
  intro l p e s m args below meth c Q G F E H locs arr hR hS hL
  have hts := F.2.2.2.2.2.1
  rw [List.map_append, List.map_reverse]
  have hnest := va_Nw.use (A := args) rfl (F.2.2.2.2.2.2.1.2.2.2 _ hl)
  refine z_back (X1 := X1) (va_runSN (Ts := zts) (As := As.map (zv G)) (rest := rest.map (zv G)) ⟨F.1, F.2.1, F.2.2.1, F.2.2.2.2.1, hts⟩ (ev l G) ⟨⟨⟨rfl, rfl, Nat.le_refl _, by have := hm.2.2.1; show 8 + (M1.2.2.1 + 11) + 36 * d ≤ 36 * (d + 1); omega, pay_in hts (zts_good hm.2.2.2.1), List.mem_cons_self⟩, hts _ hm.2.2.2.1, hts _ hm.2.2.2.2, hm.1, hm.sig, hnest⟩, hts _ hi, trivial⟩ ⟨zU_blind, fun U hU hW => ⟨rfl, zU_kept F.2.2.2.2.2.2.1 F.2.2.2.2.2.2.2.1 F.2.2.2.2.2.2.2.2.2.2 hR hS hU hW⟩⟩ rfl (by rw [List.length_map]; exact hnp) hL.1 rfl (lv_room (by rw [zcatsum]; exact hrest)) hd ⟨hk, hn⟩) hS fun H1 locs1 hR1 hS1 => ?_
  rw [zres]
  exact kk l p e s m args below meth c Q G F E H1 locs1 arr hR1 hS1 hL
theorem z_callI {M : zM} {d mc ms pc q : Nat} {ls : zL} {st : List Value} {h : zH} {k n : Nat} {X : zX} {M1 : zM} {mc1 ms1 np index a : Nat} {As rest : List Value} {X1 : zX} (hm : zMk M1 np) (hret : M1.2.2.2 = none) (hini : M1.1.name = "<init>") (hd : decode M.2.1 pc = .ok (.invokespecial index, 3)) (hl : Cond.methodLink M.1.cls index M1.1 ∈ zts) (hi : Cond.instanceMethod M1.1 ∈ zts) (ev : zEv d M1 mc1 ms1 (.ref a :: As) h X1) (hnp : As.length = np) (hrest : (rest.map fun v => v.category).sum ≤ 8) (hst : As.reverse ++ .ref a :: rest = st) (hk : k + mc1 ≤ mc) (hn : n + ms1 ≤ ms) (hq : pc + 3 = q) (kk : ZW M (d + 1) mc ms q ls (X1.1.toList ++ rest) X1.2 (k + mc1) (n + ms1) X) : ZW M (d + 1) mc ms pc ls st h k n X := by
  subst hq
  subst hst
  intro l p e s m args below meth c Q G F E H locs arr hR hS hL
  have hts := F.2.2.2.2.2.1
  rw [zstk]
  have hcb := zcallB (d := d) (mc := mc) (ms := ms) (mc1 := mc1) (ms1 := ms1) F hm hl
  rw [hret] at hcb
  have hM := ev l G
  refine z_back (X1 := X1) (va_runI (As := As.map (zv G)) (rest := rest.map (zv G)) (b := zal G a) ⟨F.1, F.2.1, F.2.2.1, F.2.2.2.2.1, hts⟩ hM ⟨hcb, hini, hts _ hi⟩ ⟨zU_blind, fun U hU hW => ⟨rfl, zU_kept F.2.2.2.2.2.2.1 F.2.2.2.2.2.2.2.1 F.2.2.2.2.2.2.2.2.2.2 hR hS hU hW⟩⟩ rfl (by rw [List.length_map]; exact hnp) hL.1 rfl (lv_room (by rw [zcatsum]; exact hrest)) hd ⟨hk, hn⟩) hS fun H1 locs1 hR1 hS1 => ?_
  rw [zres]
  exact kk l p e s m args below meth c Q G F E H1 locs1 arr hR1 hS1 hL
theorem z_callIN {M : zM} {d mc ms pc q : Nat} {ls : zL} {st : List Value} {h : zH} {k n : Nat} {X : zX} {M1 : zM} {mc1 ms1 np index a : Nat} {host : String} {As rest : List Value} {X1 : zX} (hm : zMk M1 np) (hret : M1.2.2.2 = none) (hini : M1.1.name = "<init>") (hd : decode M.2.1 pc = .ok (.invokespecial index, 3)) (hl : (M.1.cls, index, M1.1, host) ∈ zNest) (hi : Cond.instanceMethod M1.1 ∈ zts) (ev : zEv d M1 mc1 ms1 (.ref a :: As) h X1) (hnp : As.length = np) (hrest : (rest.map fun v => v.category).sum ≤ 8) (hst : As.reverse ++ .ref a :: rest = st) (hk : k + mc1 ≤ mc) (hn : n + ms1 ≤ ms) (hq : pc + 3 = q) (kk : ZW M (d + 1) mc ms q ls (X1.1.toList ++ rest) X1.2 (k + mc1) (n + ms1) X) : ZW M (d + 1) mc ms pc ls st h k n X := by
  subst hq
  subst hst
  intro l p e s m args below meth c Q G F E H locs arr hR hS hL
  have hts := F.2.2.2.2.2.1
  rw [zstk]
  have hnest := va_Nw.use (A := args) rfl (F.2.2.2.2.2.2.1.2.2.2 _ hl)
  have hcn : va_CN (zR (d + 1) mc ms) s args M.1.cls index M1.1 host M1.2.1 M1.2.2.1 M1.2.2.2 (zws M1) (zR d mc1 ms1) mc1 ms1 np := ⟨⟨rfl, rfl, Nat.le_refl _, by have := hm.2.2.1; show 8 + (M1.2.2.1 + 11) + 36 * d ≤ 36 * (d + 1); omega, pay_in hts (zts_good hm.2.2.2.1), List.mem_cons_self⟩, hts _ hm.2.2.2.1, hts _ hm.2.2.2.2, hm.1, hm.sig, hnest⟩
  rw [hret] at hcn
  have hM := ev l G
  refine z_back (X1 := X1) (va_runIN (Ts := zts) (As := As.map (zv G)) (rest := rest.map (zv G)) (b := zal G a) ⟨F.1, F.2.1, F.2.2.1, F.2.2.2.2.1, hts⟩ hM ⟨hcn, hini, hts _ hi⟩ ⟨zU_blind, fun U hU hW => ⟨rfl, zU_kept F.2.2.2.2.2.2.1 F.2.2.2.2.2.2.2.1 F.2.2.2.2.2.2.2.2.2.2 hR hS hU hW⟩⟩ rfl (by rw [List.length_map]; exact hnp) hL.1 rfl (lv_room (by rw [zcatsum]; exact hrest)) hd ⟨hk, hn⟩) hS fun H1 locs1 hR1 hS1 => ?_
  rw [zres]
  exact kk l p e s m args below meth c Q G F E H1 locs1 arr hR1 hS1 hL
theorem z_objInit {M : zM} {d mc ms pc q : Nat} {ls : zL} {st : List Value} {h : zH} {k n : Nat} {X : zX} {index a : Nat} (hd : decode M.2.1 pc = .ok (.invokespecial index, 3)) (hl : Cond.methodLink M.1.cls index objectInit ∈ zts) (hi : Cond.instanceMethod objectInit ∈ zts) (hcd : Cond.code objectInit ⟨#[0xb1]⟩ 1 none ∈ zts) (hrest : (st.map fun v => v.category).sum ≤ 8) (hq : pc + 3 = q) (kk : ZW M (d + 1) mc ms q ls st h k n X) : ZW M (d + 1) mc ms pc ls (.ref a :: st) h k n X := by
  subst hq
  intro l p e s m args below meth c Q G F E H locs arr hR hS hL
  have hts := F.2.2.2.2.2.1
  refine W.objInit F.1 F.2.1 F.2.2.2.2.1 (hts _ hl) (hts _ hi) (hts _ hcd) rfl (by rw [F.2.2.1]; exact hL.1) rfl hd (by show 1 ≤ d + 1; omega) ?_ ?_
  · show 2 * 0 + ((st.map (zv G)).map fun v => v.category).sum + 12 ≤ 36 * (d + 1)
    rw [zcatsum]
    omega
  · exact kk l p e s m args below meth c Q G F E H locs arr hR hS hL
theorem z_imax {M : zM} {d mc ms pc q : Nat} {ls : zL} {st : List Value} {h : zH} {k n : Nat} {X : zX} {index : Nat} {x y : Int32} (hd : decode M.2.1 pc = .ok (.invokestatic index, 3)) (hl : Cond.methodLink M.1.cls index Lib.Math.max.name ∈ zts) (hi : Cond.static Lib.Math.max.name ∈ zts) (hin : Cond.initialized "java/lang/Math" ∈ zts) (hcd : Cond.code Lib.Math.max.name Lib.Math.max.code 2 (some .int) ∈ zts) (hrest : (st.map fun v => v.category).sum ≤ 8) (hk : k ≤ mc) (hn : n ≤ ms) (hq : pc + 3 = q) (kk : ZW M (d + 1) mc ms q ls (.int (if x < y then y else x) :: st) h k n X) : ZW M (d + 1) mc ms pc ls (.int y :: .int x :: st) h k n X := by
  subst hq
  intro l p e s m args below meth c Q G F E H locs arr hR hS hL
  have hts := F.2.2.2.2.2.1
  exact va_mmax F.1 F.2.1 (by rw [F.2.2.1]; exact hL.1.symm) F.2.2.2.2.1 (hts _ hl) (hts _ hi) (hts _ hin) (hts _ hcd) (by show 1 ≤ d + 1; omega) (by rw [zcatsum]; show _ + 13 ≤ 36 * (d + 1); omega) hk hn hd (kk l p e s m args below meth c Q G F E H locs arr hR hS hL)
theorem z_imin {M : zM} {d mc ms pc q : Nat} {ls : zL} {st : List Value} {h : zH} {k n : Nat} {X : zX} {index : Nat} {x y : Int32} (hd : decode M.2.1 pc = .ok (.invokestatic index, 3)) (hl : Cond.methodLink M.1.cls index Lib.Math.min.name ∈ zts) (hi : Cond.static Lib.Math.min.name ∈ zts) (hin : Cond.initialized "java/lang/Math" ∈ zts) (hcd : Cond.code Lib.Math.min.name Lib.Math.min.code 2 (some .int) ∈ zts) (hrest : (st.map fun v => v.category).sum ≤ 8) (hk : k ≤ mc) (hn : n ≤ ms) (hq : pc + 3 = q) (kk : ZW M (d + 1) mc ms q ls (.int (if y < x then y else x) :: st) h k n X) : ZW M (d + 1) mc ms pc ls (.int y :: .int x :: st) h k n X := by
  subst hq
  intro l p e s m args below meth c Q G F E H locs arr hR hS hL
  have hts := F.2.2.2.2.2.1
  exact va_mmin F.1 F.2.1 (by rw [F.2.2.1]; exact hL.1.symm) F.2.2.2.2.1 (hts _ hl) (hts _ hi) (hts _ hin) (hts _ hcd) (by show 1 ≤ d + 1; omega) (by rw [zcatsum]; show _ + 13 ≤ 36 * (d + 1); omega) hk hn hd (kk l p e s m args below meth c Q G F E H locs arr hR hS hL)
/-- a method's contract out of the walk of its body -/
theorem zEv_of {M : zM} {d mc ms : Nat} {As : List Value} {h : zH} {X : zX} (hy : plainName M.1.cls = true) (hla : ∀ G : zG, (lg_sl (As.map (zv G))).length ≤ M.2.2.1) (kk : ZW M d mc ms 0 (zent As M.2.2.1) [] h 0 0 X) : zEv d M mc ms As h X := by
  intro l G
  refine Met.ofW (cc := M.2.1) (maxL := M.2.2.1) (ret := M.2.2.2) hy rfl ?_
  intro p e s m args below meth c s₁ B hml hv
  obtain ⟨rfl, hR, hK, hS, hb⟩ := hv
  rw [lg_entry_eq]
  refine kk l p e s m _ below meth c _ G ⟨B.exec, B.bytes, hml, B.returns, findClass_of_methodNamed B.named, fun w hw => atoms_spec (ws := zws M) B.pre w (List.mem_cons_of_mem _ hw), hK, hS, B.notSynchronized, (name_of_methodNamed B.named B.method).1, hb⟩ ?_ s.heap [] _ hR va_S.rf (zent_has (hla G))
  intro H locs arr pc hf hR1 hS1
  have hlocks := B.notSynchronized
  rcases hf with ⟨h1, h2, h3⟩ | ⟨ty, v, h1, h2, h3, h4⟩ | ⟨v, h1, h2, h3⟩ | ⟨nm, a, h1, h2, h3⟩
  · rw [h2]
    exact W.vret B.exec B.bytes (B.returns.trans h1) (fun t ht hW => ⟨⟨by rw [h2]; rfl, by rw [ht]; exact hR1⟩, hS1.F ht⟩) hS1.2.2 h3
  · rw [h2]
    exact W.zret B.exec B.bytes (B.returns.trans h1) h3 (fun t ht hW => ⟨⟨by rw [h2]; rfl, by rw [ht]; exact hR1⟩, hS1.F ht⟩) hS1.2.2 h4
  · rw [h2]
    exact W.lret B.exec B.bytes (B.returns.trans h1) (fun t ht hW => ⟨⟨by rw [h2]; rfl, by rw [ht]; exact hR1⟩, hS1.F ht⟩) hS1.2.2 h3
  · rw [h2]
    exact W.aret B.exec B.bytes (B.returns.trans h1) (Or.inl ⟨_, rfl⟩) (Or.inr ⟨_, rfl⟩) (fun t ht hW => ⟨⟨by rw [h2]; rfl, by rw [ht]; exact hR1⟩, hS1.F ht⟩) hS1.2.2 h3
end
section
/-! ===== the made system: its shape stays, its numbers are a memory ===== -/
/-- ints by address and place, longs by address and place -/
abbrev zm : Type := (Nat → Nat → Int32) × (Nat → Nat → Int64)
/-- an object: its class and its fields (none: an int; some: where it points); an array: kind, length, where it points -/
abbrev zSh : Type := (Nat × List (Option Nat)) ⊕ (Nat × Nat × (Nat → Option Nat))
def zno : Nat → Option Nat := fun _ => none
def zsWay : zSh := .inl (6, [none, none, none, none])
def zsPer : zSh := .inl (4, [none, none, none, none, none, none, none, none])
def zsLea (w p : Nat) : zSh := .inl (3, [none, none, none, none, some w, some p])
def zsRef (kd N b : Nat) : zSh := .inr (kd, N, fun j => if j < N then some (b + j) else none)
def zsh (a : Nat) : zSh :=
  if a < 10 then (if a = 0 then .inl (7, [some 1, some 10, some 11, none, some 12, none, none, some 14, some 29, some 44, some 45, some 46, some 144, some 146, some 148]) else if a = 1 then zsRef 3 8 2 else .inr (0, 40, zno))
  else if a < 48 then (if a = 10 then .inr (0, 8, zno) else if a = 11 then .inr (0, 8, zno) else if a = 12 then .inl (5, [some 13, none, none, none, none, none, none, none]) else if a = 13 then .inr (0, 400, zno)
    else if a = 14 then zsLea 15 16 else if a = 15 then zsRef 4 8 17 else if a = 16 then zsRef 5 4 25 else if a < 25 then zsWay else if a < 29 then zsPer
    else if a = 29 then zsLea 30 31 else if a = 30 then zsRef 4 8 32 else if a = 31 then zsRef 5 4 40 else if a < 40 then zsWay else if a < 44 then zsPer
    else if a = 44 then .inr (6, 2, fun j => if j = 0 then some 150 else if j = 1 then some 165 else none) else if a = 45 then .inr (2, 2, zno) else if a = 46 then .inl (0, [some 47, none, none]) else zsRef 5 96 48)
  else if a < 144 then zsPer
  else if a < 180 then (if a = 144 then .inl (2, [some 145]) else if a = 145 then .inr (1, 205, zno) else if a = 146 then .inl (2, [some 147]) else if a = 147 then .inr (1, 205, zno) else if a = 148 then .inl (1, [some 149, none]) else if a = 149 then .inr (0, 16, zno)
    else if a = 150 then zsLea 151 152 else if a = 151 then zsRef 4 8 153 else if a = 152 then zsRef 5 4 161 else if a < 161 then zsWay else if a < 165 then zsPer
    else if a = 165 then zsLea 166 167 else if a = 166 then zsRef 4 8 168 else if a = 167 then zsRef 5 4 176 else if a < 176 then zsWay else zsPer)
  else (if a = 180 then .inl (8, [none, none, some 181, some 182, some 183, some 184, some 185, some 186, none, some 187, none, none, none, none, none, none, none, none, none, some 188, some 189, some 190, some 191, some 192, none])
    else if a = 181 then .inr (0, 8, zno) else if a = 182 then .inr (0, 8, zno) else if a = 183 then .inr (0, 320, zno) else if a = 184 then .inr (0, 68, zno) else if a = 185 then .inr (0, 68, zno) else if a = 186 then .inr (0, 1632, zno) else if a = 187 then .inr (0, 400, zno)
    else if a = 188 then .inr (1, 205, zno) else if a = 189 then .inr (1, 205, zno) else if a = 190 then .inr (2, 2, zno) else if a = 191 then .inr (0, 136, zno) else .inr (0, 16, zno))
def zfv (m : zm) (a k : Nat) (o : Option Nat) : Value := match o with
  | some r => Value.ref r
  | none => Value.int (m.1 a k)
def zflds (m : zm) (a : Nat) (sl : List (Option Nat)) : List Value := sl.zipIdx.map (fun q => zfv m a q.2 q.1)
theorem zfv_n (m : zm) (a k : Nat) : zfv m a k none = .int (m.1 a k) := rfl
def zcell (m : zm) (a : Nat) : zE := match zsh a with
  | .inl (ci, sl) => .inr (ci, zflds m a sl)
  | .inr (kd, N, f) => if kd = 1 then .inl (1, N, .inr (.inl (m.2 a))) else if kd = 0 ∨ kd = 2 then .inl (kd, N, .inl (m.1 a)) else .inl (kd, N, .inr (.inr (.inr (.inr f))))
def lay (m : zm) : zH := (List.range 193).map (zcell m)
theorem lay_at {m : zm} {a : Nat} (h : a < 193) : (lay m)[a]? = some (zcell m a) := by
  unfold lay
  rw [List.getElem?_map, List.getElem?_range h]
  rfl
def upI (m : zm) (a k : Nat) (v : Int32) : zm := (fun b j => if b = a ∧ j = k then v else m.1 b j, m.2)
def upL (m : zm) (a k : Nat) (v : Int64) : zm := (m.1, fun b j => if b = a ∧ j = k then v else m.2 b j)
theorem upI_eq (m : zm) (a k : Nat) (v : Int32) : (upI m a k v).1 a k = v := by simp [upI]
theorem upI_ne {m : zm} {a k b j : Nat} {v : Int32} (h : ¬ (b = a ∧ j = k)) : (upI m a k v).1 b j = m.1 b j := by simp [upI, h]
theorem upI_na {m : zm} {a k b : Nat} {v : Int32} (h : b ≠ a) : (upI m a k v).1 b = m.1 b := by
  funext j
  exact upI_ne (fun z => h z.1)
theorem upL_na {m : zm} {a k b : Nat} {v : Int64} (h : b ≠ a) : (upL m a k v).2 b = m.2 b := by
  funext j
  simp [upL, h]
theorem zcell_congr {m m' : zm} {b : Nat} (h1 : m'.1 b = m.1 b) (h2 : m'.2 b = m.2 b) : zcell m' b = zcell m b := by
  unfold zcell zflds
  rw [h1, h2]
theorem lay_set {m m' : zm} {a : Nat} (h1 : ∀ b, b ≠ a → m'.1 b = m.1 b) (h2 : ∀ b, b ≠ a → m'.2 b = m.2 b) : (lay m).set a (zcell m' a) = lay m' := by
  apply List.ext_getElem?
  intro i
  by_cases hi : i < 193
  · by_cases ha : i = a
    · subst ha
      rw [lay_at hi, List.getElem?_set_self (by simpa [lay] using hi)]
    · rw [List.getElem?_set_ne (fun z => ha z.symm), lay_at hi, lay_at hi, zcell_congr (h1 i ha) (h2 i ha)]
  · rw [List.getElem?_eq_none (by simp [lay]; omega), List.getElem?_eq_none (by simp [lay]; omega)]
/-- the int field k of an object of class ci at a -/
def okI (a ci k : Nat) : Prop := a < 193 ∧ ∃ sl, zsh a = .inl (ci, sl) ∧ sl[k]? = some none
def okR (a ci k r : Nat) : Prop := a < 193 ∧ ∃ sl, zsh a = .inl (ci, sl) ∧ sl[k]? = some (some r)
def okO (a ci : Nat) : Prop := a < 193 ∧ ∃ sl, zsh a = .inl (ci, sl)
def okA (a kd N : Nat) : Prop := a < 193 ∧ ∃ f, zsh a = .inr (kd, N, f)
def okP (a kd N : Nat) (j b : Nat) : Prop := a < 193 ∧ ∃ f, zsh a = .inr (kd, N, f) ∧ j < N ∧ f j = some b
theorem zflds_at {m : zm} {a : Nat} {sl : List (Option Nat)} {k : Nat} {o : Option Nat} (h : sl[k]? = some o) : (zflds m a sl)[k]? = some (zfv m a k o) := by
  unfold zflds
  rw [List.getElem?_map, List.getElem?_zipIdx, h]
  simp
theorem zcell_o {m : zm} {a ci : Nat} {sl : List (Option Nat)} (h : zsh a = .inl (ci, sl)) : zcell m a = .inr (ci, zflds m a sl) := by
  unfold zcell
  rw [h]
theorem zcell_a {m : zm} {a N : Nat} {kd : Nat} {f : Nat → Option Nat} (hk : kd = 0 ∨ kd = 2) (h : zsh a = .inr (kd, N, f)) : zcell m a = .inl (kd, N, .inl (m.1 a)) := by
  unfold zcell
  rw [h]
  rcases hk with rfl | rfl <;> simp
theorem zcell_l {m : zm} {a N : Nat} {f : Nat → Option Nat} (h : zsh a = .inr (1, N, f)) : zcell m a = .inl (1, N, .inr (.inl (m.2 a))) := by
  unfold zcell
  rw [h]
  simp
theorem zcell_p {m : zm} {a N : Nat} {kd : Nat} {f : Nat → Option Nat} (hk : kd = 3 ∨ kd = 4 ∨ kd = 5 ∨ kd = 6) (h : zsh a = .inr (kd, N, f)) : zcell m a = .inl (kd, N, .inr (.inr (.inr (.inr f)))) := by
  unfold zcell
  rw [h]
  rcases hk with rfl | rfl | rfl | rfl <;> simp
theorem zflds_up {m : zm} {a k : Nat} {v : Int32} : ∀ {sl : List (Option Nat)}, sl[k]? = some none → (zflds m a sl).set k (.int v) = zflds (upI m a k v) a sl := by
  intro sl hk
  apply List.ext_getElem?
  intro i
  by_cases hi : i < sl.length
  · obtain ⟨o, ho⟩ : ∃ o, sl[i]? = some o := ⟨_, List.getElem?_eq_getElem hi⟩
    by_cases he : i = k
    · subst he
      rw [List.getElem?_set_self (by simpa [zflds] using hi), zflds_at hk]
      simp [upI, zfv]
    · rw [List.getElem?_set_ne (fun z => he z.symm), zflds_at ho, zflds_at ho]
      cases o
      · simp [upI, zfv, he]
      · rfl
  · rw [List.getElem?_eq_none (by simp [zflds]; omega), List.getElem?_eq_none (by simp [zflds]; omega)]
theorem zm_upd {m : zm} {a j : Nat} {v : Int32} : upd (m.1 a) j v = (upI m a j v).1 a := by
  funext i
  by_cases h : i = j <;> simp [upd, upI, h]
theorem zm_updL {m : zm} {a j : Nat} {v : Int64} : vp_updL (m.2 a) j v = (upL m a j v).2 a := by
  funext i
  by_cases h : i = j <;> simp [vp_updL, upL, h]
theorem m_getI {M : zM} {d mc ms pc q : Nat} {ls : zL} {st : List Value} {m : zm} {k n : Nat} {X : zX} {index ci kx a : Nat} (hd : decode M.2.1 pc = .ok (.getfield index, 3)) (hf : zFl M.1.cls index ci kx) (ho : okI a ci kx) (hq : pc + 3 = q) (kk : ZW M d mc ms q ls (.int (m.1 a kx) :: st) (lay m) k n X) : ZW M d mc ms pc ls (.ref a :: st) (lay m) k n X := by
  obtain ⟨h1, sl, h2, h3⟩ := ho
  exact z_getf hd hf (by rw [lay_at h1, zcell_o h2]) (zflds_at h3) hq kk
theorem m_getR {M : zM} {d mc ms pc q : Nat} {ls : zL} {st : List Value} {m : zm} {k n : Nat} {X : zX} {index ci kx a r : Nat} (hd : decode M.2.1 pc = .ok (.getfield index, 3)) (hf : zFl M.1.cls index ci kx) (ho : okR a ci kx r) (hq : pc + 3 = q) (kk : ZW M d mc ms q ls (.ref r :: st) (lay m) k n X) : ZW M d mc ms pc ls (.ref a :: st) (lay m) k n X := by
  obtain ⟨h1, sl, h2, h3⟩ := ho
  exact z_getf hd hf (by rw [lay_at h1, zcell_o h2]) (zflds_at h3) hq kk
theorem m_putI {M : zM} {d mc ms pc q : Nat} {ls : zL} {st : List Value} {m : zm} {k n : Nat} {X : zX} {index ci kx a : Nat} {v : Int32} {ty : FieldType} (hd : decode M.2.1 pc = .ok (.putfield index, 3)) (hf : zFp M.1.cls index ci kx ty false) (ho : okI a ci kx) (hn : narrow ty (.int v) = .int v ∧ fits ty (.int v) = true) (hq : pc + 3 = q) (kk : ZW M d mc ms q ls st (lay (upI m a kx v)) k n X) : ZW M d mc ms pc ls (.int v :: .ref a :: st) (lay m) k n X := by
  obtain ⟨h1, sl, h2, h3⟩ := ho
  have hl : kx < sl.length := (List.getElem?_eq_some_iff.mp h3).1
  refine z_putf hd hf (by rw [lay_at h1, zcell_o h2]) (by simpa [zflds] using hl) (fun G => hn) hq ?_
  rw [zflds_up h3, ← zcell_o (m := upI m a kx v) h2, lay_set (fun b hb => upI_na hb) (fun b hb => rfl)]
  exact kk
theorem m_iald {M : zM} {d mc ms pc q : Nat} {ls : zL} {st : List Value} {m : zm} {k n : Nat} {X : zX} {a N : Nat} {i : Int32} (hd : decode M.2.1 pc = .ok (.iaload, 1)) (ho : okA a 0 N) (hi : vp_in i N) (hq : pc + 1 = q) (kk : ZW M d mc ms q ls (.int (m.1 a i.toNatClampNeg) :: st) (lay m) k n X) : ZW M d mc ms pc ls (.int i :: .ref a :: st) (lay m) k n X := by
  obtain ⟨h1, f, h2⟩ := ho
  exact z_iaload hd (by rw [lay_at h1, zcell_a (Or.inl rfl) h2]) hi hq kk
theorem m_zald {M : zM} {d mc ms pc q : Nat} {ls : zL} {st : List Value} {m : zm} {k n : Nat} {X : zX} {a N : Nat} {i : Int32} (hd : decode M.2.1 pc = .ok (.baload, 1)) (ho : okA a 2 N) (hi : vp_in i N) (hq : pc + 1 = q) (kk : ZW M d mc ms q ls (.int (m.1 a i.toNatClampNeg) :: st) (lay m) k n X) : ZW M d mc ms pc ls (.int i :: .ref a :: st) (lay m) k n X := by
  obtain ⟨h1, f, h2⟩ := ho
  exact z_zaload hd (by rw [lay_at h1, zcell_a (Or.inr rfl) h2]) hi hq kk
theorem m_lald {M : zM} {d mc ms pc q : Nat} {ls : zL} {st : List Value} {m : zm} {k n : Nat} {X : zX} {a N : Nat} {i : Int32} (hd : decode M.2.1 pc = .ok (.laload, 1)) (ho : okA a 1 N) (hi : vp_in i N) (hq : pc + 1 = q) (kk : ZW M d mc ms q ls (.long (m.2 a i.toNatClampNeg) :: st) (lay m) k n X) : ZW M d mc ms pc ls (.int i :: .ref a :: st) (lay m) k n X := by
  obtain ⟨h1, f, h2⟩ := ho
  exact z_laload hd (by rw [lay_at h1, zcell_l h2]) hi hq kk
theorem m_aald {M : zM} {d mc ms pc q : Nat} {ls : zL} {st : List Value} {m : zm} {k n : Nat} {X : zX} {kd a N b : Nat} {i : Int32} (hd : decode M.2.1 pc = .ok (.aaload, 1)) (hk : kd = 3 ∨ kd = 4 ∨ kd = 5 ∨ kd = 6) (ho : okP a kd N i.toNatClampNeg b) (hi : 0 ≤ i) (hq : pc + 1 = q) (kk : ZW M d mc ms q ls (.ref b :: st) (lay m) k n X) : ZW M d mc ms pc ls (.int i :: .ref a :: st) (lay m) k n X := by
  obtain ⟨h1, f, h2, h3, h4⟩ := ho
  exact z_aaload hd hk (by rw [lay_at h1, zcell_p hk h2]) (fun z => z.elim (fun z => absurd hi (by rw [Int32.not_le]; exact z)) (fun z => by omega)) h4 hq kk
theorem m_iast {M : zM} {d mc ms pc q : Nat} {ls : zL} {st : List Value} {m : zm} {k n : Nat} {X : zX} {a N : Nat} {i x : Int32} (hd : decode M.2.1 pc = .ok (.iastore, 1)) (ho : okA a 0 N) (hi : vp_in i N) (hq : pc + 1 = q) (kk : ZW M d mc ms q ls st (lay (upI m a i.toNatClampNeg x)) k n X) : ZW M d mc ms pc ls (.int x :: .int i :: .ref a :: st) (lay m) k n X := by
  obtain ⟨h1, f, h2⟩ := ho
  refine z_iastore hd (by rw [lay_at h1, zcell_a (Or.inl rfl) h2]) hi hq ?_
  rw [zm_upd, ← zcell_a (m := upI m a i.toNatClampNeg x) (Or.inl rfl) h2, lay_set (fun b hb => upI_na hb) (fun b hb => rfl)]
  exact kk
theorem m_zast {M : zM} {d mc ms pc q : Nat} {ls : zL} {st : List Value} {m : zm} {k n : Nat} {X : zX} {a N : Nat} {i x : Int32} (hd : decode M.2.1 pc = .ok (.bastore, 1)) (ho : okA a 2 N) (hi : vp_in i N) (hq : pc + 1 = q) (kk : ZW M d mc ms q ls st (lay (upI m a i.toNatClampNeg (vp_nar .boolean x))) k n X) : ZW M d mc ms pc ls (.int x :: .int i :: .ref a :: st) (lay m) k n X := by
  obtain ⟨h1, f, h2⟩ := ho
  refine z_zastore hd (by rw [lay_at h1, zcell_a (Or.inr rfl) h2]) hi hq ?_
  rw [zm_upd, ← zcell_a (m := upI m a i.toNatClampNeg (vp_nar .boolean x)) (Or.inr rfl) h2, lay_set (fun b hb => upI_na hb) (fun b hb => rfl)]
  exact kk
theorem m_last {M : zM} {d mc ms pc q : Nat} {ls : zL} {st : List Value} {m : zm} {k n : Nat} {X : zX} {a N : Nat} {i : Int32} {x : Int64} (hd : decode M.2.1 pc = .ok (.lastore, 1)) (ho : okA a 1 N) (hi : vp_in i N) (hq : pc + 1 = q) (kk : ZW M d mc ms q ls st (lay (upL m a i.toNatClampNeg x)) k n X) : ZW M d mc ms pc ls (.long x :: .int i :: .ref a :: st) (lay m) k n X := by
  obtain ⟨h1, f, h2⟩ := ho
  refine z_lastore hd (by rw [lay_at h1, zcell_l h2]) hi hq ?_
  rw [zm_updL, ← zcell_l (m := upL m a i.toNatClampNeg x) h2, lay_set (m := m) (m' := upL m a i.toNatClampNeg x) (fun b hb => rfl) (fun b hb => upL_na hb)]
  exact kk
theorem m_callV {M : zM} {d mc ms pc q : Nat} {ls : zL} {st : List Value} {m : zm} {k n : Nat} {X : zX} {M1 : zM} {np index ci a : Nat} {As rest : List Value} {X1 : zX} {T : u_T} {N : Nat} (hm : zMk M1 np) (hd : decode M.2.1 pc = .ok (.invokevirtual index, 3)) (hl : Cond.methodLink M.1.cls index M1.1 ∈ zts) (hi : Cond.instanceMethod M1.1 ∈ zts) (hse : Cond.selects M1.1.cls M1.1 M1.1 ∈ zts) (hc : vwCl[ci]? = some (M1.1.cls, T, N)) (ho : okO a ci) (ev : zEv d M1 0 0 (.ref a :: As) (lay m) X1) (hnp : As.length = np) (hrest : (rest.map fun v => v.category).sum ≤ 8) (hst : As.reverse ++ .ref a :: rest = st) (hk : k ≤ mc) (hn : n ≤ ms) (hq : pc + 3 = q) (kk : ZW M (d + 1) mc ms q ls (X1.1.toList ++ rest) X1.2 k n X) : ZW M (d + 1) mc ms pc ls st (lay m) k n X := by
  obtain ⟨h1, sl, h2⟩ := ho
  exact z_callV hm hd hl hi hse hc (by rw [lay_at h1, zcell_o h2]) ev hnp hrest hst hk hn hq kk
end
