section
-- ===== PART A: goes FIRST, ahead of the names: the tables' words, and 'selects' of the private methods out of them =====
/-- a private method of a class that the tables say can be made, by its rows of tables_1 -/
def lw_okq (q : MethodName × Nat) : Prop := (q.1.cls ≠ "java/lang/invoke/MethodHandle" ∧ q.1.cls ≠ "java/lang/invoke/VarHandle") ∧ Cond.instantiable q.1.cls q.2 ∈ tables_1 ∧ Cond.privateMethod q.1 ∈ tables_1 ∧ Cond.instanceMethod q.1 ∈ tables_1
theorem lw_p0 : lw_okq (⟨"PropertyDocuments$Description", "isTaken", "(II)Z"⟩, 7) := ⟨⟨by decide +kernel, by decide +kernel⟩, List.mem_of_getElem? (i := 20) (by decide +kernel), List.mem_of_getElem? (i := 206) (by decide +kernel), List.mem_of_getElem? (i := 207) (by decide +kernel)⟩
theorem lw_p1 : lw_okq (⟨"PropertyDocuments$Instances", "hasCell", "(II)Z"⟩, 4) := ⟨⟨by decide +kernel, by decide +kernel⟩, List.mem_of_getElem? (i := 49) (by decide +kernel), List.mem_of_getElem? (i := 227) (by decide +kernel), List.mem_of_getElem? (i := 228) (by decide +kernel)⟩
theorem lw_p2 : lw_okq (⟨"PropertyDocuments$Instances", "cell", "(II)I"⟩, 4) := ⟨⟨by decide +kernel, by decide +kernel⟩, List.mem_of_getElem? (i := 49) (by decide +kernel), List.mem_of_getElem? (i := 235) (by decide +kernel), List.mem_of_getElem? (i := 236) (by decide +kernel)⟩
theorem lw_p3 : lw_okq (⟨"PropertyDocuments", "propertyOfObject", "(II)I"⟩, 6) := ⟨⟨by decide +kernel, by decide +kernel⟩, List.mem_of_getElem? (i := 12) (by decide +kernel), List.mem_of_getElem? (i := 247) (by decide +kernel), List.mem_of_getElem? (i := 248) (by decide +kernel)⟩
theorem lw_p4 : lw_okq (⟨"PropertyDocuments$Writer", "writeDocument", "(III)Z"⟩, 3) := ⟨⟨by decide +kernel, by decide +kernel⟩, List.mem_of_getElem? (i := 87) (by decide +kernel), List.mem_of_getElem? (i := 322) (by decide +kernel), List.mem_of_getElem? (i := 323) (by decide +kernel)⟩
theorem lw_p5 : lw_okq (⟨"PropertyDocuments$Bytes", "lowByte", "(JI)I"⟩, 2) := ⟨⟨by decide +kernel, by decide +kernel⟩, List.mem_of_getElem? (i := 71) (by decide +kernel), List.mem_of_getElem? (i := 331) (by decide +kernel), List.mem_of_getElem? (i := 332) (by decide +kernel)⟩
theorem lw_p6 : lw_okq (⟨"PropertyDocuments$Writer", "writeMark", "(I)Z"⟩, 3) := ⟨⟨by decide +kernel, by decide +kernel⟩, List.mem_of_getElem? (i := 87) (by decide +kernel), List.mem_of_getElem? (i := 339) (by decide +kernel), List.mem_of_getElem? (i := 340) (by decide +kernel)⟩
theorem lw_p7 : lw_okq (⟨"PropertyDocuments$Writer", "writeOwnProperties", "(III)Z"⟩, 3) := ⟨⟨by decide +kernel, by decide +kernel⟩, List.mem_of_getElem? (i := 87) (by decide +kernel), List.mem_of_getElem? (i := 346) (by decide +kernel), List.mem_of_getElem? (i := 347) (by decide +kernel)⟩
theorem lw_p8 : lw_okq (⟨"PropertyDocuments$Writer", "writeProperty", "(III)Z"⟩, 3) := ⟨⟨by decide +kernel, by decide +kernel⟩, List.mem_of_getElem? (i := 87) (by decide +kernel), List.mem_of_getElem? (i := 354) (by decide +kernel), List.mem_of_getElem? (i := 355) (by decide +kernel)⟩
theorem lw_p9 : lw_okq (⟨"PropertyDocuments$Writer", "writeHead", "(II)Z"⟩, 3) := ⟨⟨by decide +kernel, by decide +kernel⟩, List.mem_of_getElem? (i := 87) (by decide +kernel), List.mem_of_getElem? (i := 364) (by decide +kernel), List.mem_of_getElem? (i := 365) (by decide +kernel)⟩
theorem lw_p10 : lw_okq (⟨"PropertyDocuments$Writer", "writeLink", "(IIII)Z"⟩, 3) := ⟨⟨by decide +kernel, by decide +kernel⟩, List.mem_of_getElem? (i := 87) (by decide +kernel), List.mem_of_getElem? (i := 370) (by decide +kernel), List.mem_of_getElem? (i := 371) (by decide +kernel)⟩
theorem lw_p11 : lw_okq (⟨"PropertyDocuments$Outline", "readDocument", "(II)I"⟩, 9) := ⟨⟨by decide +kernel, by decide +kernel⟩, List.mem_of_getElem? (i := 106) (by decide +kernel), List.mem_of_getElem? (i := 397) (by decide +kernel), List.mem_of_getElem? (i := 398) (by decide +kernel)⟩
theorem lw_p12 : lw_okq (⟨"PropertyDocuments$Outline", "readElement", "(III)I"⟩, 9) := ⟨⟨by decide +kernel, by decide +kernel⟩, List.mem_of_getElem? (i := 106) (by decide +kernel), List.mem_of_getElem? (i := 412) (by decide +kernel), List.mem_of_getElem? (i := 413) (by decide +kernel)⟩
theorem lw_p13 : lw_okq (⟨"PropertyDocuments$Outline", "endOfText", "(I)I"⟩, 9) := ⟨⟨by decide +kernel, by decide +kernel⟩, List.mem_of_getElem? (i := 106) (by decide +kernel), List.mem_of_getElem? (i := 416) (by decide +kernel), List.mem_of_getElem? (i := 417) (by decide +kernel)⟩
theorem lw_p14 : lw_okq (⟨"PropertyDocuments$Outline", "readContent", "(III)I"⟩, 9) := ⟨⟨by decide +kernel, by decide +kernel⟩, List.mem_of_getElem? (i := 106) (by decide +kernel), List.mem_of_getElem? (i := 420) (by decide +kernel), List.mem_of_getElem? (i := 421) (by decide +kernel)⟩
theorem lw_p15 : lw_okq (⟨"PropertyDocuments$Outline", "readText", "(I)I"⟩, 9) := ⟨⟨by decide +kernel, by decide +kernel⟩, List.mem_of_getElem? (i := 106) (by decide +kernel), List.mem_of_getElem? (i := 424) (by decide +kernel), List.mem_of_getElem? (i := 425) (by decide +kernel)⟩
def lw_privs_1 : List (MethodName × Nat) := [(⟨"PropertyDocuments$Description", "isTaken", "(II)Z"⟩, 7), (⟨"PropertyDocuments$Instances", "hasCell", "(II)Z"⟩, 4), (⟨"PropertyDocuments$Instances", "cell", "(II)I"⟩, 4), (⟨"PropertyDocuments", "propertyOfObject", "(II)I"⟩, 6), (⟨"PropertyDocuments$Writer", "writeDocument", "(III)Z"⟩, 3), (⟨"PropertyDocuments$Bytes", "lowByte", "(JI)I"⟩, 2), (⟨"PropertyDocuments$Writer", "writeMark", "(I)Z"⟩, 3), (⟨"PropertyDocuments$Writer", "writeOwnProperties", "(III)Z"⟩, 3), (⟨"PropertyDocuments$Writer", "writeProperty", "(III)Z"⟩, 3), (⟨"PropertyDocuments$Writer", "writeHead", "(II)Z"⟩, 3), (⟨"PropertyDocuments$Writer", "writeLink", "(IIII)Z"⟩, 3), (⟨"PropertyDocuments$Outline", "readDocument", "(II)I"⟩, 9), (⟨"PropertyDocuments$Outline", "readElement", "(III)I"⟩, 9), (⟨"PropertyDocuments$Outline", "endOfText", "(I)I"⟩, 9), (⟨"PropertyDocuments$Outline", "readContent", "(III)I"⟩, 9), (⟨"PropertyDocuments$Outline", "readText", "(I)I"⟩, 9)]
theorem lw_r1 : ∀ q ∈ lw_privs_1, lw_okq q := List.forall_mem_cons.mpr ⟨lw_p0, List.forall_mem_cons.mpr ⟨lw_p1, List.forall_mem_cons.mpr ⟨lw_p2, List.forall_mem_cons.mpr ⟨lw_p3, List.forall_mem_cons.mpr ⟨lw_p4, List.forall_mem_cons.mpr ⟨lw_p5, List.forall_mem_cons.mpr ⟨lw_p6, List.forall_mem_cons.mpr ⟨lw_p7, List.forall_mem_cons.mpr ⟨lw_p8, List.forall_mem_cons.mpr ⟨lw_p9, List.forall_mem_cons.mpr ⟨lw_p10, List.forall_mem_cons.mpr ⟨lw_p11, List.forall_mem_cons.mpr ⟨lw_p12, List.forall_mem_cons.mpr ⟨lw_p13, List.forall_mem_cons.mpr ⟨lw_p14, List.forall_mem_cons.mpr ⟨lw_p15, fun _ h => absurd h List.not_mem_nil⟩⟩⟩⟩⟩⟩⟩⟩⟩⟩⟩⟩⟩⟩⟩⟩
theorem lw_p16 : lw_okq (⟨"PropertyDocuments$Fitting", "findMeant", "(I)I"⟩, 5) := ⟨⟨by decide +kernel, by decide +kernel⟩, List.mem_of_getElem? (i := 145) (by decide +kernel), List.mem_of_getElem? (i := 437) (by decide +kernel), List.mem_of_getElem? (i := 438) (by decide +kernel)⟩
theorem lw_p17 : lw_okq (⟨"PropertyDocuments$Outline", "hasElement", "(I)Z"⟩, 9) := ⟨⟨by decide +kernel, by decide +kernel⟩, List.mem_of_getElem? (i := 106) (by decide +kernel), List.mem_of_getElem? (i := 445) (by decide +kernel), List.mem_of_getElem? (i := 446) (by decide +kernel)⟩
theorem lw_p18 : lw_okq (⟨"PropertyDocuments$Outline", "nameByte", "(II)I"⟩, 9) := ⟨⟨by decide +kernel, by decide +kernel⟩, List.mem_of_getElem? (i := 106) (by decide +kernel), List.mem_of_getElem? (i := 453) (by decide +kernel), List.mem_of_getElem? (i := 454) (by decide +kernel)⟩
theorem lw_p19 : lw_okq (⟨"PropertyDocuments$Fitting", "markedClass", "(I)I"⟩, 5) := ⟨⟨by decide +kernel, by decide +kernel⟩, List.mem_of_getElem? (i := 145) (by decide +kernel), List.mem_of_getElem? (i := 457) (by decide +kernel), List.mem_of_getElem? (i := 458) (by decide +kernel)⟩
theorem lw_p20 : lw_okq (⟨"PropertyDocuments$Fitting", "elementsFit", "(I)Z"⟩, 5) := ⟨⟨by decide +kernel, by decide +kernel⟩, List.mem_of_getElem? (i := 145) (by decide +kernel), List.mem_of_getElem? (i := 472) (by decide +kernel), List.mem_of_getElem? (i := 473) (by decide +kernel)⟩
theorem lw_p21 : lw_okq (⟨"PropertyDocuments$Fitting", "propertyFor", "(I)I"⟩, 5) := ⟨⟨by decide +kernel, by decide +kernel⟩, List.mem_of_getElem? (i := 145) (by decide +kernel), List.mem_of_getElem? (i := 476) (by decide +kernel), List.mem_of_getElem? (i := 477) (by decide +kernel)⟩
theorem lw_p22 : lw_okq (⟨"PropertyDocuments$Fitting", "wantInside", "(II)V"⟩, 5) := ⟨⟨by decide +kernel, by decide +kernel⟩, List.mem_of_getElem? (i := 145) (by decide +kernel), List.mem_of_getElem? (i := 489) (by decide +kernel), List.mem_of_getElem? (i := 490) (by decide +kernel)⟩
theorem lw_p23 : lw_okq (⟨"PropertyDocuments$Fitting", "fillProperty", "(LPropertyDocuments$Instances;II)V"⟩, 5) := ⟨⟨by decide +kernel, by decide +kernel⟩, List.mem_of_getElem? (i := 145) (by decide +kernel), List.mem_of_getElem? (i := 503) (by decide +kernel), List.mem_of_getElem? (i := 504) (by decide +kernel)⟩
theorem lw_p24 : lw_okq (⟨"PropertyDocuments$Fitting", "numberIn", "(I)J"⟩, 5) := ⟨⟨by decide +kernel, by decide +kernel⟩, List.mem_of_getElem? (i := 145) (by decide +kernel), List.mem_of_getElem? (i := 508) (by decide +kernel), List.mem_of_getElem? (i := 509) (by decide +kernel)⟩
theorem lw_p25 : lw_okq (⟨"PropertyDocumentsModel", "isClass", "(I)Z"⟩, 35) := ⟨⟨by decide +kernel, by decide +kernel⟩, List.mem_of_getElem? (i := 551) (by decide +kernel), List.mem_of_getElem? (i := 667) (by decide +kernel), List.mem_of_getElem? (i := 668) (by decide +kernel)⟩
theorem lw_p26 : lw_okq (⟨"PropertyDocumentsModel", "isKind", "(II)Z"⟩, 35) := ⟨⟨by decide +kernel, by decide +kernel⟩, List.mem_of_getElem? (i := 551) (by decide +kernel), List.mem_of_getElem? (i := 675) (by decide +kernel), List.mem_of_getElem? (i := 676) (by decide +kernel)⟩
theorem lw_p27 : lw_okq (⟨"PropertyDocumentsModel", "find", "(II)I"⟩, 35) := ⟨⟨by decide +kernel, by decide +kernel⟩, List.mem_of_getElem? (i := 551) (by decide +kernel), List.mem_of_getElem? (i := 679) (by decide +kernel), List.mem_of_getElem? (i := 680) (by decide +kernel)⟩
theorem lw_p28 : lw_okq (⟨"PropertyDocumentsModel", "isOf", "(II)Z"⟩, 35) := ⟨⟨by decide +kernel, by decide +kernel⟩, List.mem_of_getElem? (i := 551) (by decide +kernel), List.mem_of_getElem? (i := 683) (by decide +kernel), List.mem_of_getElem? (i := 684) (by decide +kernel)⟩
theorem lw_p29 : lw_okq (⟨"PropertyDocumentsModel", "clear", "(I)V"⟩, 35) := ⟨⟨by decide +kernel, by decide +kernel⟩, List.mem_of_getElem? (i := 551) (by decide +kernel), List.mem_of_getElem? (i := 691) (by decide +kernel), List.mem_of_getElem? (i := 692) (by decide +kernel)⟩
theorem lw_p30 : lw_okq (⟨"PropertyDocumentsModel", "slot", "(II)I"⟩, 35) := ⟨⟨by decide +kernel, by decide +kernel⟩, List.mem_of_getElem? (i := 551) (by decide +kernel), List.mem_of_getElem? (i := 700) (by decide +kernel), List.mem_of_getElem? (i := 701) (by decide +kernel)⟩
theorem lw_p31 : lw_okq (⟨"PropertyDocumentsModel", "isObject", "(I)Z"⟩, 35) := ⟨⟨by decide +kernel, by decide +kernel⟩, List.mem_of_getElem? (i := 551) (by decide +kernel), List.mem_of_getElem? (i := 704) (by decide +kernel), List.mem_of_getElem? (i := 705) (by decide +kernel)⟩
def lw_privs_2 : List (MethodName × Nat) := [(⟨"PropertyDocuments$Fitting", "findMeant", "(I)I"⟩, 5), (⟨"PropertyDocuments$Outline", "hasElement", "(I)Z"⟩, 9), (⟨"PropertyDocuments$Outline", "nameByte", "(II)I"⟩, 9), (⟨"PropertyDocuments$Fitting", "markedClass", "(I)I"⟩, 5), (⟨"PropertyDocuments$Fitting", "elementsFit", "(I)Z"⟩, 5), (⟨"PropertyDocuments$Fitting", "propertyFor", "(I)I"⟩, 5), (⟨"PropertyDocuments$Fitting", "wantInside", "(II)V"⟩, 5), (⟨"PropertyDocuments$Fitting", "fillProperty", "(LPropertyDocuments$Instances;II)V"⟩, 5), (⟨"PropertyDocuments$Fitting", "numberIn", "(I)J"⟩, 5), (⟨"PropertyDocumentsModel", "isClass", "(I)Z"⟩, 35), (⟨"PropertyDocumentsModel", "isKind", "(II)Z"⟩, 35), (⟨"PropertyDocumentsModel", "find", "(II)I"⟩, 35), (⟨"PropertyDocumentsModel", "isOf", "(II)Z"⟩, 35), (⟨"PropertyDocumentsModel", "clear", "(I)V"⟩, 35), (⟨"PropertyDocumentsModel", "slot", "(II)I"⟩, 35), (⟨"PropertyDocumentsModel", "isObject", "(I)Z"⟩, 35)]
theorem lw_r2 : ∀ q ∈ lw_privs_2, lw_okq q := List.forall_mem_cons.mpr ⟨lw_p16, List.forall_mem_cons.mpr ⟨lw_p17, List.forall_mem_cons.mpr ⟨lw_p18, List.forall_mem_cons.mpr ⟨lw_p19, List.forall_mem_cons.mpr ⟨lw_p20, List.forall_mem_cons.mpr ⟨lw_p21, List.forall_mem_cons.mpr ⟨lw_p22, List.forall_mem_cons.mpr ⟨lw_p23, List.forall_mem_cons.mpr ⟨lw_p24, List.forall_mem_cons.mpr ⟨lw_p25, List.forall_mem_cons.mpr ⟨lw_p26, List.forall_mem_cons.mpr ⟨lw_p27, List.forall_mem_cons.mpr ⟨lw_p28, List.forall_mem_cons.mpr ⟨lw_p29, List.forall_mem_cons.mpr ⟨lw_p30, List.forall_mem_cons.mpr ⟨lw_p31, fun _ h => absurd h List.not_mem_nil⟩⟩⟩⟩⟩⟩⟩⟩⟩⟩⟩⟩⟩⟩⟩⟩
theorem lw_p32 : lw_okq (⟨"PropertyDocumentsModel", "begin", "(II)V"⟩, 35) := ⟨⟨by decide +kernel, by decide +kernel⟩, List.mem_of_getElem? (i := 551) (by decide +kernel), List.mem_of_getElem? (i := 738) (by decide +kernel), List.mem_of_getElem? (i := 739) (by decide +kernel)⟩
theorem lw_p33 : lw_okq (⟨"PropertyDocumentsModel", "writeNumber", "(JI)V"⟩, 35) := ⟨⟨by decide +kernel, by decide +kernel⟩, List.mem_of_getElem? (i := 551) (by decide +kernel), List.mem_of_getElem? (i := 742) (by decide +kernel), List.mem_of_getElem? (i := 743) (by decide +kernel)⟩
theorem lw_p34 : lw_okq (⟨"PropertyDocumentsModel", "write", "(I)V"⟩, 35) := ⟨⟨by decide +kernel, by decide +kernel⟩, List.mem_of_getElem? (i := 551) (by decide +kernel), List.mem_of_getElem? (i := 747) (by decide +kernel), List.mem_of_getElem? (i := 748) (by decide +kernel)⟩
theorem lw_p35 : lw_okq (⟨"PropertyDocumentsModel", "nth", "(II)I"⟩, 35) := ⟨⟨by decide +kernel, by decide +kernel⟩, List.mem_of_getElem? (i := 551) (by decide +kernel), List.mem_of_getElem? (i := 752) (by decide +kernel), List.mem_of_getElem? (i := 753) (by decide +kernel)⟩
theorem lw_p36 : lw_okq (⟨"PropertyDocumentsModel", "end", "()V"⟩, 35) := ⟨⟨by decide +kernel, by decide +kernel⟩, List.mem_of_getElem? (i := 551) (by decide +kernel), List.mem_of_getElem? (i := 756) (by decide +kernel), List.mem_of_getElem? (i := 757) (by decide +kernel)⟩
theorem lw_p37 : lw_okq (⟨"PropertyDocumentsModel", "element", "(II)V"⟩, 35) := ⟨⟨by decide +kernel, by decide +kernel⟩, List.mem_of_getElem? (i := 551) (by decide +kernel), List.mem_of_getElem? (i := 760) (by decide +kernel), List.mem_of_getElem? (i := 761) (by decide +kernel)⟩
theorem lw_p38 : lw_okq (⟨"PropertyDocumentsModel", "read", "()Z"⟩, 35) := ⟨⟨by decide +kernel, by decide +kernel⟩, List.mem_of_getElem? (i := 551) (by decide +kernel), List.mem_of_getElem? (i := 768) (by decide +kernel), List.mem_of_getElem? (i := 769) (by decide +kernel)⟩
theorem lw_p39 : lw_okq (⟨"PropertyDocumentsModel", "readDocument", "()V"⟩, 35) := ⟨⟨by decide +kernel, by decide +kernel⟩, List.mem_of_getElem? (i := 551) (by decide +kernel), List.mem_of_getElem? (i := 772) (by decide +kernel), List.mem_of_getElem? (i := 773) (by decide +kernel)⟩
theorem lw_p40 : lw_okq (⟨"PropertyDocumentsModel", "skip", "(I)V"⟩, 35) := ⟨⟨by decide +kernel, by decide +kernel⟩, List.mem_of_getElem? (i := 551) (by decide +kernel), List.mem_of_getElem? (i := 776) (by decide +kernel), List.mem_of_getElem? (i := 777) (by decide +kernel)⟩
theorem lw_p41 : lw_okq (⟨"PropertyDocumentsModel", "next", "()I"⟩, 35) := ⟨⟨by decide +kernel, by decide +kernel⟩, List.mem_of_getElem? (i := 551) (by decide +kernel), List.mem_of_getElem? (i := 780) (by decide +kernel), List.mem_of_getElem? (i := 781) (by decide +kernel)⟩
theorem lw_p42 : lw_okq (⟨"PropertyDocumentsModel", "readElement", "(I)V"⟩, 35) := ⟨⟨by decide +kernel, by decide +kernel⟩, List.mem_of_getElem? (i := 551) (by decide +kernel), List.mem_of_getElem? (i := 784) (by decide +kernel), List.mem_of_getElem? (i := 785) (by decide +kernel)⟩
theorem lw_p43 : lw_okq (⟨"PropertyDocumentsModel", "line", "()I"⟩, 35) := ⟨⟨by decide +kernel, by decide +kernel⟩, List.mem_of_getElem? (i := 551) (by decide +kernel), List.mem_of_getElem? (i := 788) (by decide +kernel), List.mem_of_getElem? (i := 789) (by decide +kernel)⟩
theorem lw_p44 : lw_okq (⟨"PropertyDocumentsModel", "number", "(I)I"⟩, 35) := ⟨⟨by decide +kernel, by decide +kernel⟩, List.mem_of_getElem? (i := 551) (by decide +kernel), List.mem_of_getElem? (i := 792) (by decide +kernel), List.mem_of_getElem? (i := 793) (by decide +kernel)⟩
theorem lw_p45 : lw_okq (⟨"PropertyDocumentsModel", "fits", "(I)Z"⟩, 35) := ⟨⟨by decide +kernel, by decide +kernel⟩, List.mem_of_getElem? (i := 551) (by decide +kernel), List.mem_of_getElem? (i := 808) (by decide +kernel), List.mem_of_getElem? (i := 809) (by decide +kernel)⟩
theorem lw_p46 : lw_okq (⟨"PropertyDocumentsModel", "mean", "(I)Z"⟩, 35) := ⟨⟨by decide +kernel, by decide +kernel⟩, List.mem_of_getElem? (i := 551) (by decide +kernel), List.mem_of_getElem? (i := 812) (by decide +kernel), List.mem_of_getElem? (i := 813) (by decide +kernel)⟩
theorem lw_p47 : lw_okq (⟨"PropertyDocumentsModel", "isMark", "(I)Z"⟩, 35) := ⟨⟨by decide +kernel, by decide +kernel⟩, List.mem_of_getElem? (i := 551) (by decide +kernel), List.mem_of_getElem? (i := 816) (by decide +kernel), List.mem_of_getElem? (i := 817) (by decide +kernel)⟩
def lw_privs_3 : List (MethodName × Nat) := [(⟨"PropertyDocumentsModel", "begin", "(II)V"⟩, 35), (⟨"PropertyDocumentsModel", "writeNumber", "(JI)V"⟩, 35), (⟨"PropertyDocumentsModel", "write", "(I)V"⟩, 35), (⟨"PropertyDocumentsModel", "nth", "(II)I"⟩, 35), (⟨"PropertyDocumentsModel", "end", "()V"⟩, 35), (⟨"PropertyDocumentsModel", "element", "(II)V"⟩, 35), (⟨"PropertyDocumentsModel", "read", "()Z"⟩, 35), (⟨"PropertyDocumentsModel", "readDocument", "()V"⟩, 35), (⟨"PropertyDocumentsModel", "skip", "(I)V"⟩, 35), (⟨"PropertyDocumentsModel", "next", "()I"⟩, 35), (⟨"PropertyDocumentsModel", "readElement", "(I)V"⟩, 35), (⟨"PropertyDocumentsModel", "line", "()I"⟩, 35), (⟨"PropertyDocumentsModel", "number", "(I)I"⟩, 35), (⟨"PropertyDocumentsModel", "fits", "(I)Z"⟩, 35), (⟨"PropertyDocumentsModel", "mean", "(I)Z"⟩, 35), (⟨"PropertyDocumentsModel", "isMark", "(I)Z"⟩, 35)]
theorem lw_r3 : ∀ q ∈ lw_privs_3, lw_okq q := List.forall_mem_cons.mpr ⟨lw_p32, List.forall_mem_cons.mpr ⟨lw_p33, List.forall_mem_cons.mpr ⟨lw_p34, List.forall_mem_cons.mpr ⟨lw_p35, List.forall_mem_cons.mpr ⟨lw_p36, List.forall_mem_cons.mpr ⟨lw_p37, List.forall_mem_cons.mpr ⟨lw_p38, List.forall_mem_cons.mpr ⟨lw_p39, List.forall_mem_cons.mpr ⟨lw_p40, List.forall_mem_cons.mpr ⟨lw_p41, List.forall_mem_cons.mpr ⟨lw_p42, List.forall_mem_cons.mpr ⟨lw_p43, List.forall_mem_cons.mpr ⟨lw_p44, List.forall_mem_cons.mpr ⟨lw_p45, List.forall_mem_cons.mpr ⟨lw_p46, List.forall_mem_cons.mpr ⟨lw_p47, fun _ h => absurd h List.not_mem_nil⟩⟩⟩⟩⟩⟩⟩⟩⟩⟩⟩⟩⟩⟩⟩⟩
theorem lw_p48 : lw_okq (⟨"PropertyDocumentsModel", "about", "(I)I"⟩, 35) := ⟨⟨by decide +kernel, by decide +kernel⟩, List.mem_of_getElem? (i := 551) (by decide +kernel), List.mem_of_getElem? (i := 820) (by decide +kernel), List.mem_of_getElem? (i := 821) (by decide +kernel)⟩
theorem lw_p49 : lw_okq (⟨"PropertyDocumentsModel", "take", "(II)V"⟩, 35) := ⟨⟨by decide +kernel, by decide +kernel⟩, List.mem_of_getElem? (i := 551) (by decide +kernel), List.mem_of_getElem? (i := 827) (by decide +kernel), List.mem_of_getElem? (i := 828) (by decide +kernel)⟩
theorem lw_p50 : lw_okq (⟨"PropertyDocumentsModel", "long64", "(I)J"⟩, 35) := ⟨⟨by decide +kernel, by decide +kernel⟩, List.mem_of_getElem? (i := 551) (by decide +kernel), List.mem_of_getElem? (i := 831) (by decide +kernel), List.mem_of_getElem? (i := 832) (by decide +kernel)⟩
def lw_privs_4 : List (MethodName × Nat) := [(⟨"PropertyDocumentsModel", "about", "(I)I"⟩, 35), (⟨"PropertyDocumentsModel", "take", "(II)V"⟩, 35), (⟨"PropertyDocumentsModel", "long64", "(I)J"⟩, 35)]
theorem lw_r4 : ∀ q ∈ lw_privs_4, lw_okq q := List.forall_mem_cons.mpr ⟨lw_p48, List.forall_mem_cons.mpr ⟨lw_p49, List.forall_mem_cons.mpr ⟨lw_p50, fun _ h => absurd h List.not_mem_nil⟩⟩⟩
def lw_privs : List (MethodName × Nat) := lw_privs_1 ++ (lw_privs_2 ++ (lw_privs_3 ++ (lw_privs_4)))
def lw_tbl : List Cond := k2_sels lw_privs ++ tables_1
theorem lw_privs_ok : ∀ q ∈ lw_privs, lw_okq q := by
  show ∀ q ∈ lw_privs_1 ++ (lw_privs_2 ++ (lw_privs_3 ++ (lw_privs_4))), lw_okq q
  exact List.forall_mem_append.mpr ⟨lw_r1, List.forall_mem_append.mpr ⟨lw_r2, List.forall_mem_append.mpr ⟨lw_r3, lw_r4⟩⟩⟩
end
section
/-! names of the classes, their fields, the methods: laid by wip/gen/names.py out of the Statement -/
abbrev zB : String := "PropertyDocuments$Bytes"
def zB_T : u_T := fun k => match k with
  | 0 => ("PropertyDocuments$Bytes", "row", "[I", true)
  | _ => ("PropertyDocuments$Bytes", "count", "I", false)
def zB_t : Nat → FieldType := fun k => match k with
  | 0 => .array .int
  | _ => .int
theorem zB_n : ∀ a, a < 2 → ∀ b, b < 2 → a ≠ b → (zB_T a).2.1 ≠ (zB_T b).2.1 := by decide +kernel
theorem zB_k : ∀ k, k < 2 → parseFieldDescriptor (zB_T k).2.2.1 = some (zB_t k) := by decide +kernel
abbrev zD : String := "PropertyDocuments$Description"
def zD_T : u_T := fun k => match k with
  | 0 => ("PropertyDocuments$Description", "parents", "[I", true)
  | 1 => ("PropertyDocuments$Description", "owners", "[I", true)
  | 2 => ("PropertyDocuments$Description", "letters", "[I", true)
  | 3 => ("PropertyDocuments$Description", "sorts", "[I", true)
  | 4 => ("PropertyDocuments$Description", "targets", "[I", true)
  | 5 => ("PropertyDocuments$Description", "classCount", "I", false)
  | _ => ("PropertyDocuments$Description", "propertyCount", "I", false)
def zD_t : Nat → FieldType := fun k => match k with
  | 0 => .array .int
  | 1 => .array .int
  | 2 => .array .int
  | 3 => .array .int
  | 4 => .array .int
  | 5 => .int
  | _ => .int
theorem zD_n : ∀ a, a < 7 → ∀ b, b < 7 → a ≠ b → (zD_T a).2.1 ≠ (zD_T b).2.1 := by decide +kernel
theorem zD_k : ∀ k, k < 7 → parseFieldDescriptor (zD_T k).2.2.1 = some (zD_t k) := by decide +kernel
abbrev zF : String := "PropertyDocuments$Fitting"
def zF_T : u_T := fun k => match k with
  | 0 => ("PropertyDocuments$Fitting", "description", "LPropertyDocuments$Description;", true)
  | 1 => ("PropertyDocuments$Fitting", "bytes", "LPropertyDocuments$Bytes;", true)
  | 2 => ("PropertyDocuments$Fitting", "outline", "LPropertyDocuments$Outline;", true)
  | 3 => ("PropertyDocuments$Fitting", "wanted", "[I", true)
  | _ => ("PropertyDocuments$Fitting", "meant", "[I", true)
def zF_t : Nat → FieldType := fun k => match k with
  | 0 => .object "PropertyDocuments$Description"
  | 1 => .object "PropertyDocuments$Bytes"
  | 2 => .object "PropertyDocuments$Outline"
  | 3 => .array .int
  | _ => .array .int
theorem zF_n : ∀ a, a < 5 → ∀ b, b < 5 → a ≠ b → (zF_T a).2.1 ≠ (zF_T b).2.1 := by decide +kernel
theorem zF_k : ∀ k, k < 5 → parseFieldDescriptor (zF_T k).2.2.1 = some (zF_t k) := by decide +kernel
abbrev zI : String := "PropertyDocuments$Instances"
def zI_T : u_T := fun k => match k with
  | 0 => ("PropertyDocuments$Instances", "kinds", "[I", true)
  | 1 => ("PropertyDocuments$Instances", "values", "[J", true)
  | 2 => ("PropertyDocuments$Instances", "partners", "[I", true)
  | _ => ("PropertyDocuments$Instances", "count", "I", false)
def zI_t : Nat → FieldType := fun k => match k with
  | 0 => .array .int
  | 1 => .array .long
  | 2 => .array .int
  | _ => .int
theorem zI_n : ∀ a, a < 4 → ∀ b, b < 4 → a ≠ b → (zI_T a).2.1 ≠ (zI_T b).2.1 := by decide +kernel
theorem zI_k : ∀ k, k < 4 → parseFieldDescriptor (zI_T k).2.2.1 = some (zI_t k) := by decide +kernel
abbrev zO : String := "PropertyDocuments$Outline"
def zO_T : u_T := fun k => match k with
  | 0 => ("PropertyDocuments$Outline", "bytes", "LPropertyDocuments$Bytes;", true)
  | 1 => ("PropertyDocuments$Outline", "types", "[I", true)
  | 2 => ("PropertyDocuments$Outline", "names", "[I", true)
  | 3 => ("PropertyDocuments$Outline", "contents", "[I", true)
  | 4 => ("PropertyDocuments$Outline", "holders", "[I", true)
  | 5 => ("PropertyDocuments$Outline", "inners", "[I", true)
  | 6 => ("PropertyDocuments$Outline", "elementCount", "I", false)
  | 7 => ("PropertyDocuments$Outline", "documentCount", "I", false)
  | _ => ("PropertyDocuments$Outline", "deepest", "I", false)
def zO_t : Nat → FieldType := fun k => match k with
  | 0 => .object "PropertyDocuments$Bytes"
  | 1 => .array .int
  | 2 => .array .int
  | 3 => .array .int
  | 4 => .array .int
  | 5 => .array .int
  | 6 => .int
  | 7 => .int
  | _ => .int
theorem zO_n : ∀ a, a < 9 → ∀ b, b < 9 → a ≠ b → (zO_T a).2.1 ≠ (zO_T b).2.1 := by decide +kernel
theorem zO_k : ∀ k, k < 9 → parseFieldDescriptor (zO_T k).2.2.1 = some (zO_t k) := by decide +kernel
abbrev zW : String := "PropertyDocuments$Writer"
def zW_T : u_T := fun k => match k with
  | 0 => ("PropertyDocuments$Writer", "description", "LPropertyDocuments$Description;", true)
  | 1 => ("PropertyDocuments$Writer", "instances", "LPropertyDocuments$Instances;", true)
  | _ => ("PropertyDocuments$Writer", "draft", "LPropertyDocuments$Bytes;", true)
def zW_t : Nat → FieldType := fun k => match k with
  | 0 => .object "PropertyDocuments$Description"
  | 1 => .object "PropertyDocuments$Instances"
  | _ => .object "PropertyDocuments$Bytes"
theorem zW_n : ∀ a, a < 3 → ∀ b, b < 3 → a ≠ b → (zW_T a).2.1 ≠ (zW_T b).2.1 := by decide +kernel
theorem zW_k : ∀ k, k < 3 → parseFieldDescriptor (zW_T k).2.2.1 = some (zW_t k) := by decide +kernel
abbrev zP : String := "PropertyDocuments"
def zP_T : u_T := fun k => match k with
  | 0 => ("PropertyDocuments", "description", "LPropertyDocuments$Description;", true)
  | 1 => ("PropertyDocuments", "instances", "LPropertyDocuments$Instances;", true)
  | 2 => ("PropertyDocuments", "buffer", "LPropertyDocuments$Bytes;", true)
  | 3 => ("PropertyDocuments", "writer", "LPropertyDocuments$Writer;", true)
  | 4 => ("PropertyDocuments", "outline", "LPropertyDocuments$Outline;", true)
  | _ => ("PropertyDocuments", "fitting", "LPropertyDocuments$Fitting;", true)
def zP_t : Nat → FieldType := fun k => match k with
  | 0 => .object "PropertyDocuments$Description"
  | 1 => .object "PropertyDocuments$Instances"
  | 2 => .object "PropertyDocuments$Bytes"
  | 3 => .object "PropertyDocuments$Writer"
  | 4 => .object "PropertyDocuments$Outline"
  | _ => .object "PropertyDocuments$Fitting"
theorem zP_n : ∀ a, a < 6 → ∀ b, b < 6 → a ≠ b → (zP_T a).2.1 ≠ (zP_T b).2.1 := by decide +kernel
theorem zP_k : ∀ k, k < 6 → parseFieldDescriptor (zP_T k).2.2.1 = some (zP_t k) := by decide +kernel
abbrev zM : String := "PropertyDocumentsModel"
def zM_T : u_T := fun k => match k with
  | 0 => ("PropertyDocumentsModel", "classes", "I", false)
  | 1 => ("PropertyDocumentsModel", "parent", "[I", false)
  | 2 => ("PropertyDocumentsModel", "given", "I", false)
  | 3 => ("PropertyDocumentsModel", "owner", "[I", false)
  | 4 => ("PropertyDocumentsModel", "letters", "[I", false)
  | 5 => ("PropertyDocumentsModel", "sorts", "[I", false)
  | 6 => ("PropertyDocumentsModel", "targets", "[I", false)
  | 7 => ("PropertyDocumentsModel", "count", "I", false)
  | 8 => ("PropertyDocumentsModel", "cls", "[I", false)
  | 9 => ("PropertyDocumentsModel", "held", "[J", false)
  | 10 => ("PropertyDocumentsModel", "size", "I", false)
  | 11 => ("PropertyDocumentsModel", "bytes", "[I", false)
  | 12 => ("PropertyDocumentsModel", "len", "I", false)
  | 13 => ("PropertyDocumentsModel", "failed", "Z", false)
  | 14 => ("PropertyDocumentsModel", "out", "[I", false)
  | 15 => ("PropertyDocumentsModel", "open", "I", false)
  | 16 => ("PropertyDocumentsModel", "openObject", "[I", false)
  | 17 => ("PropertyDocumentsModel", "openStart", "[I", false)
  | 18 => ("PropertyDocumentsModel", "openNext", "[I", false)
  | 19 => ("PropertyDocumentsModel", "at", "I", false)
  | 20 => ("PropertyDocumentsModel", "bad", "Z", false)
  | 21 => ("PropertyDocumentsModel", "docs", "I", false)
  | 22 => ("PropertyDocumentsModel", "docStart", "[I", false)
  | 23 => ("PropertyDocumentsModel", "docDepth", "[I", false)
  | 24 => ("PropertyDocumentsModel", "docNeed", "[I", false)
  | 25 => ("PropertyDocumentsModel", "docMeant", "[I", false)
  | 26 => ("PropertyDocumentsModel", "elems", "I", false)
  | 27 => ("PropertyDocumentsModel", "elemDoc", "[I", false)
  | 28 => ("PropertyDocumentsModel", "elemType", "[I", false)
  | 29 => ("PropertyDocumentsModel", "elemName", "[I", false)
  | 30 => ("PropertyDocumentsModel", "elemNameLen", "[I", false)
  | 31 => ("PropertyDocumentsModel", "elemContent", "[I", false)
  | 32 => ("PropertyDocumentsModel", "elemChild", "[I", false)
  | 33 => ("PropertyDocumentsModel", "deep", "I", false)
  | _ => ("PropertyDocumentsModel", "deepDoc", "[I", false)
def zM_t : Nat → FieldType := fun k => match k with
  | 0 => .int
  | 1 => .array .int
  | 2 => .int
  | 3 => .array .int
  | 4 => .array .int
  | 5 => .array .int
  | 6 => .array .int
  | 7 => .int
  | 8 => .array .int
  | 9 => .array .long
  | 10 => .int
  | 11 => .array .int
  | 12 => .int
  | 13 => .boolean
  | 14 => .array .int
  | 15 => .int
  | 16 => .array .int
  | 17 => .array .int
  | 18 => .array .int
  | 19 => .int
  | 20 => .boolean
  | 21 => .int
  | 22 => .array .int
  | 23 => .array .int
  | 24 => .array .int
  | 25 => .array .int
  | 26 => .int
  | 27 => .array .int
  | 28 => .array .int
  | 29 => .array .int
  | 30 => .array .int
  | 31 => .array .int
  | 32 => .array .int
  | 33 => .int
  | _ => .array .int
theorem zM_n : ∀ a, a < 35 → ∀ b, b < 35 → a ≠ b → (zM_T a).2.1 ≠ (zM_T b).2.1 := by decide +kernel
theorem zM_k : ∀ k, k < 35 → parseFieldDescriptor (zM_T k).2.2.1 = some (zM_t k) := by decide +kernel
abbrev cs : List vw_C := [(zB, zB_T, 2), (zD, zD_T, 7), (zF, zF_T, 5), (zI, zI_T, 4), (zO, zO_T, 9), (zW, zW_T, 3), (zP, zP_T, 6), (zM, zM_T, 35)]
abbrev yP_objects : MethodName := ⟨"PropertyDocuments", "objects", "()I"⟩
abbrev bP_objects : ByteArray := prog_1_method_10_code
abbrev yP_drop : MethodName := ⟨"PropertyDocuments", "drop", "()V"⟩
abbrev bP_drop : ByteArray := prog_1_method_11_code
abbrev yP_encode : MethodName := ⟨"PropertyDocuments", "encode", "(II)I"⟩
abbrev bP_encode : ByteArray := prog_1_method_12_code
abbrev yP_decode : MethodName := ⟨"PropertyDocuments", "decode", "(I)I"⟩
abbrev bP_decode : ByteArray := prog_1_method_13_code
abbrev yP_sound : MethodName := ⟨"PropertyDocuments", "sound", "()Z"⟩
abbrev bP_sound : ByteArray := prog_1_method_14_code
abbrev yP_depth : MethodName := ⟨"PropertyDocuments", "depth", "()I"⟩
abbrev bP_depth : ByteArray := prog_1_method_15_code
abbrev yP_elements : MethodName := ⟨"PropertyDocuments", "elements", "()I"⟩
abbrev bP_elements : ByteArray := prog_1_method_16_code
abbrev yP_size : MethodName := ⟨"PropertyDocuments", "size", "()I"⟩
abbrev bP_size : ByteArray := prog_1_method_17_code
abbrev yP_byteAt : MethodName := ⟨"PropertyDocuments", "byteAt", "(I)I"⟩
abbrev bP_byteAt : ByteArray := prog_1_method_18_code
abbrev yP_poke : MethodName := ⟨"PropertyDocuments", "poke", "(II)Z"⟩
abbrev bP_poke : ByteArray := prog_1_method_19_code
abbrev yP_init : MethodName := ⟨"PropertyDocuments", "<init>", "()V"⟩
abbrev bP_init : ByteArray := prog_1_method_1_code
abbrev yP_cut : MethodName := ⟨"PropertyDocuments", "cut", "(I)Z"⟩
abbrev bP_cut : ByteArray := prog_1_method_20_code
abbrev yP_propertyOfObject : MethodName := ⟨"PropertyDocuments", "propertyOfObject", "(II)I"⟩
abbrev bP_propertyOfObject : ByteArray := prog_1_method_21_code
abbrev yP_define : MethodName := ⟨"PropertyDocuments", "define", "(I)I"⟩
abbrev bP_define : ByteArray := prog_1_method_2_code
abbrev yP_property : MethodName := ⟨"PropertyDocuments", "property", "(IIII)Z"⟩
abbrev bP_property : ByteArray := prog_1_method_3_code
abbrev yP_make : MethodName := ⟨"PropertyDocuments", "make", "(I)I"⟩
abbrev bP_make : ByteArray := prog_1_method_4_code
abbrev yP_put : MethodName := ⟨"PropertyDocuments", "put", "(IIJ)Z"⟩
abbrev bP_put : ByteArray := prog_1_method_5_code
abbrev yP_link : MethodName := ⟨"PropertyDocuments", "link", "(III)Z"⟩
abbrev bP_link : ByteArray := prog_1_method_6_code
abbrev yP_value : MethodName := ⟨"PropertyDocuments", "value", "(II)J"⟩
abbrev bP_value : ByteArray := prog_1_method_7_code
abbrev yP_linked : MethodName := ⟨"PropertyDocuments", "linked", "(II)I"⟩
abbrev bP_linked : ByteArray := prog_1_method_8_code
abbrev yP_classOf : MethodName := ⟨"PropertyDocuments", "classOf", "(I)I"⟩
abbrev bP_classOf : ByteArray := prog_1_method_9_code
abbrev yB_longAt : MethodName := ⟨"PropertyDocuments$Bytes", "longAt", "(I)J"⟩
abbrev bB_longAt : ByteArray := prog_2_method_10_code
abbrev yB_copyFrom : MethodName := ⟨"PropertyDocuments$Bytes", "copyFrom", "(LPropertyDocuments$Bytes;)V"⟩
abbrev bB_copyFrom : ByteArray := prog_2_method_11_code
abbrev yB_init : MethodName := ⟨"PropertyDocuments$Bytes", "<init>", "()V"⟩
abbrev bB_init : ByteArray := prog_2_method_1_code
abbrev yB_at : MethodName := ⟨"PropertyDocuments$Bytes", "at", "(I)I"⟩
abbrev bB_at : ByteArray := prog_2_method_2_code
abbrev yB_add : MethodName := ⟨"PropertyDocuments$Bytes", "add", "(I)Z"⟩
abbrev bB_add : ByteArray := prog_2_method_3_code
abbrev yB_replace : MethodName := ⟨"PropertyDocuments$Bytes", "replace", "(II)Z"⟩
abbrev bB_replace : ByteArray := prog_2_method_4_code
abbrev yB_addNumber : MethodName := ⟨"PropertyDocuments$Bytes", "addNumber", "(JI)Z"⟩
abbrev bB_addNumber : ByteArray := prog_2_method_5_code
abbrev yB_replaceNumber : MethodName := ⟨"PropertyDocuments$Bytes", "replaceNumber", "(IJI)V"⟩
abbrev bB_replaceNumber : ByteArray := prog_2_method_6_code
abbrev yB_lowByte : MethodName := ⟨"PropertyDocuments$Bytes", "lowByte", "(JI)I"⟩
abbrev bB_lowByte : ByteArray := prog_2_method_7_code
abbrev yB_holds : MethodName := ⟨"PropertyDocuments$Bytes", "holds", "(II)Z"⟩
abbrev bB_holds : ByteArray := prog_2_method_8_code
abbrev yB_intAt : MethodName := ⟨"PropertyDocuments$Bytes", "intAt", "(I)I"⟩
abbrev bB_intAt : ByteArray := prog_2_method_9_code
abbrev yD_letter : MethodName := ⟨"PropertyDocuments$Description", "letter", "(I)I"⟩
abbrev bD_letter : ByteArray := prog_3_method_10_code
abbrev yD_sort : MethodName := ⟨"PropertyDocuments$Description", "sort", "(I)I"⟩
abbrev bD_sort : ByteArray := prog_3_method_11_code
abbrev yD_target : MethodName := ⟨"PropertyDocuments$Description", "target", "(I)I"⟩
abbrev bD_target : ByteArray := prog_3_method_12_code
abbrev yD_isLink : MethodName := ⟨"PropertyDocuments$Description", "isLink", "(I)Z"⟩
abbrev bD_isLink : ByteArray := prog_3_method_13_code
abbrev yD_allowsValue : MethodName := ⟨"PropertyDocuments$Description", "allowsValue", "(IJ)Z"⟩
abbrev bD_allowsValue : ByteArray := prog_3_method_14_code
abbrev yD_allowsType : MethodName := ⟨"PropertyDocuments$Description", "allowsType", "(II)Z"⟩
abbrev bD_allowsType : ByteArray := prog_3_method_15_code
abbrev yD_init : MethodName := ⟨"PropertyDocuments$Description", "<init>", "()V"⟩
abbrev bD_init : ByteArray := prog_3_method_1_code
abbrev yD_hasClass : MethodName := ⟨"PropertyDocuments$Description", "hasClass", "(I)Z"⟩
abbrev bD_hasClass : ByteArray := prog_3_method_2_code
abbrev yD_hasProperty : MethodName := ⟨"PropertyDocuments$Description", "hasProperty", "(I)Z"⟩
abbrev bD_hasProperty : ByteArray := prog_3_method_3_code
abbrev yD_addClass : MethodName := ⟨"PropertyDocuments$Description", "addClass", "(I)I"⟩
abbrev bD_addClass : ByteArray := prog_3_method_4_code
abbrev yD_addProperty : MethodName := ⟨"PropertyDocuments$Description", "addProperty", "(IIII)Z"⟩
abbrev bD_addProperty : ByteArray := prog_3_method_5_code
abbrev yD_isTaken : MethodName := ⟨"PropertyDocuments$Description", "isTaken", "(II)Z"⟩
abbrev bD_isTaken : ByteArray := prog_3_method_6_code
abbrev yD_isKindOf : MethodName := ⟨"PropertyDocuments$Description", "isKindOf", "(II)Z"⟩
abbrev bD_isKindOf : ByteArray := prog_3_method_7_code
abbrev yD_propertyOf : MethodName := ⟨"PropertyDocuments$Description", "propertyOf", "(II)I"⟩
abbrev bD_propertyOf : ByteArray := prog_3_method_8_code
abbrev yD_isOwn : MethodName := ⟨"PropertyDocuments$Description", "isOwn", "(II)Z"⟩
abbrev bD_isOwn : ByteArray := prog_3_method_9_code
abbrev yF_numberIn : MethodName := ⟨"PropertyDocuments$Fitting", "numberIn", "(I)J"⟩
abbrev bF_numberIn : ByteArray := prog_4_method_10_code
abbrev yF_init : MethodName := ⟨"PropertyDocuments$Fitting", "<init>", "(LPropertyDocuments$Description;LPropertyDocuments$Bytes;LPropertyDocuments$Outline;)V"⟩
abbrev bF_init : ByteArray := prog_4_method_1_code
abbrev yF_fits : MethodName := ⟨"PropertyDocuments$Fitting", "fits", "(I)Z"⟩
abbrev bF_fits : ByteArray := prog_4_method_2_code
abbrev yF_findMeant : MethodName := ⟨"PropertyDocuments$Fitting", "findMeant", "(I)I"⟩
abbrev bF_findMeant : ByteArray := prog_4_method_3_code
abbrev yF_markedClass : MethodName := ⟨"PropertyDocuments$Fitting", "markedClass", "(I)I"⟩
abbrev bF_markedClass : ByteArray := prog_4_method_4_code
abbrev yF_elementsFit : MethodName := ⟨"PropertyDocuments$Fitting", "elementsFit", "(I)Z"⟩
abbrev bF_elementsFit : ByteArray := prog_4_method_5_code
abbrev yF_wantInside : MethodName := ⟨"PropertyDocuments$Fitting", "wantInside", "(II)V"⟩
abbrev bF_wantInside : ByteArray := prog_4_method_6_code
abbrev yF_propertyFor : MethodName := ⟨"PropertyDocuments$Fitting", "propertyFor", "(I)I"⟩
abbrev bF_propertyFor : ByteArray := prog_4_method_7_code
abbrev yF_fill : MethodName := ⟨"PropertyDocuments$Fitting", "fill", "(LPropertyDocuments$Instances;)I"⟩
abbrev bF_fill : ByteArray := prog_4_method_8_code
abbrev yF_fillProperty : MethodName := ⟨"PropertyDocuments$Fitting", "fillProperty", "(LPropertyDocuments$Instances;II)V"⟩
abbrev bF_fillProperty : ByteArray := prog_4_method_9_code
abbrev yI_setPartner : MethodName := ⟨"PropertyDocuments$Instances", "setPartner", "(III)V"⟩
abbrev bI_setPartner : ByteArray := prog_5_method_10_code
abbrev yI_init : MethodName := ⟨"PropertyDocuments$Instances", "<init>", "()V"⟩
abbrev bI_init : ByteArray := prog_5_method_1_code
abbrev yI_has : MethodName := ⟨"PropertyDocuments$Instances", "has", "(I)Z"⟩
abbrev bI_has : ByteArray := prog_5_method_2_code
abbrev yI_kind : MethodName := ⟨"PropertyDocuments$Instances", "kind", "(I)I"⟩
abbrev bI_kind : ByteArray := prog_5_method_3_code
abbrev yI_add : MethodName := ⟨"PropertyDocuments$Instances", "add", "(I)I"⟩
abbrev bI_add : ByteArray := prog_5_method_4_code
abbrev yI_hasCell : MethodName := ⟨"PropertyDocuments$Instances", "hasCell", "(II)Z"⟩
abbrev bI_hasCell : ByteArray := prog_5_method_5_code
abbrev yI_cell : MethodName := ⟨"PropertyDocuments$Instances", "cell", "(II)I"⟩
abbrev bI_cell : ByteArray := prog_5_method_6_code
abbrev yI_valueAt : MethodName := ⟨"PropertyDocuments$Instances", "valueAt", "(II)J"⟩
abbrev bI_valueAt : ByteArray := prog_5_method_7_code
abbrev yI_partnerAt : MethodName := ⟨"PropertyDocuments$Instances", "partnerAt", "(II)I"⟩
abbrev bI_partnerAt : ByteArray := prog_5_method_8_code
abbrev yI_setValue : MethodName := ⟨"PropertyDocuments$Instances", "setValue", "(IIJ)V"⟩
abbrev bI_setValue : ByteArray := prog_5_method_9_code
abbrev yO_content : MethodName := ⟨"PropertyDocuments$Outline", "content", "(I)I"⟩
abbrev bO_content : ByteArray := prog_6_method_10_code
abbrev yO_holder : MethodName := ⟨"PropertyDocuments$Outline", "holder", "(I)I"⟩
abbrev bO_holder : ByteArray := prog_6_method_11_code
abbrev yO_inner : MethodName := ⟨"PropertyDocuments$Outline", "inner", "(I)I"⟩
abbrev bO_inner : ByteArray := prog_6_method_12_code
abbrev yO_isMark : MethodName := ⟨"PropertyDocuments$Outline", "isMark", "(I)Z"⟩
abbrev bO_isMark : ByteArray := prog_6_method_13_code
abbrev yO_letter : MethodName := ⟨"PropertyDocuments$Outline", "letter", "(I)I"⟩
abbrev bO_letter : ByteArray := prog_6_method_14_code
abbrev yO_nameByte : MethodName := ⟨"PropertyDocuments$Outline", "nameByte", "(II)I"⟩
abbrev bO_nameByte : ByteArray := prog_6_method_15_code
abbrev yO_init : MethodName := ⟨"PropertyDocuments$Outline", "<init>", "(LPropertyDocuments$Bytes;)V"⟩
abbrev bO_init : ByteArray := prog_6_method_1_code
abbrev yO_read : MethodName := ⟨"PropertyDocuments$Outline", "read", "()Z"⟩
abbrev bO_read : ByteArray := prog_6_method_2_code
abbrev yO_readDocument : MethodName := ⟨"PropertyDocuments$Outline", "readDocument", "(II)I"⟩
abbrev bO_readDocument : ByteArray := prog_6_method_3_code
abbrev yO_readElement : MethodName := ⟨"PropertyDocuments$Outline", "readElement", "(III)I"⟩
abbrev bO_readElement : ByteArray := prog_6_method_4_code
abbrev yO_readContent : MethodName := ⟨"PropertyDocuments$Outline", "readContent", "(III)I"⟩
abbrev bO_readContent : ByteArray := prog_6_method_5_code
abbrev yO_readText : MethodName := ⟨"PropertyDocuments$Outline", "readText", "(I)I"⟩
abbrev bO_readText : ByteArray := prog_6_method_6_code
abbrev yO_endOfText : MethodName := ⟨"PropertyDocuments$Outline", "endOfText", "(I)I"⟩
abbrev bO_endOfText : ByteArray := prog_6_method_7_code
abbrev yO_hasElement : MethodName := ⟨"PropertyDocuments$Outline", "hasElement", "(I)Z"⟩
abbrev bO_hasElement : ByteArray := prog_6_method_8_code
abbrev yO_type : MethodName := ⟨"PropertyDocuments$Outline", "type", "(I)I"⟩
abbrev bO_type : ByteArray := prog_6_method_9_code
abbrev yW_init : MethodName := ⟨"PropertyDocuments$Writer", "<init>", "(LPropertyDocuments$Description;LPropertyDocuments$Instances;)V"⟩
abbrev bW_init : ByteArray := prog_7_method_1_code
abbrev yW_write : MethodName := ⟨"PropertyDocuments$Writer", "write", "(II)Z"⟩
abbrev bW_write : ByteArray := prog_7_method_2_code
abbrev yW_writeDocument : MethodName := ⟨"PropertyDocuments$Writer", "writeDocument", "(III)Z"⟩
abbrev bW_writeDocument : ByteArray := prog_7_method_3_code
abbrev yW_writeMark : MethodName := ⟨"PropertyDocuments$Writer", "writeMark", "(I)Z"⟩
abbrev bW_writeMark : ByteArray := prog_7_method_4_code
abbrev yW_writeOwnProperties : MethodName := ⟨"PropertyDocuments$Writer", "writeOwnProperties", "(III)Z"⟩
abbrev bW_writeOwnProperties : ByteArray := prog_7_method_5_code
abbrev yW_writeProperty : MethodName := ⟨"PropertyDocuments$Writer", "writeProperty", "(III)Z"⟩
abbrev bW_writeProperty : ByteArray := prog_7_method_6_code
abbrev yW_writeLink : MethodName := ⟨"PropertyDocuments$Writer", "writeLink", "(IIII)Z"⟩
abbrev bW_writeLink : ByteArray := prog_7_method_7_code
abbrev yW_writeHead : MethodName := ⟨"PropertyDocuments$Writer", "writeHead", "(II)Z"⟩
abbrev bW_writeHead : ByteArray := prog_7_method_8_code
abbrev yM_clear : MethodName := ⟨"PropertyDocumentsModel", "clear", "(I)V"⟩
abbrev bM_clear : ByteArray := prog_9_method_10_code
abbrev yM_make : MethodName := ⟨"PropertyDocumentsModel", "make", "(I)I"⟩
abbrev bM_make : ByteArray := prog_9_method_11_code
abbrev yM_slot : MethodName := ⟨"PropertyDocumentsModel", "slot", "(II)I"⟩
abbrev bM_slot : ByteArray := prog_9_method_12_code
abbrev yM_put : MethodName := ⟨"PropertyDocumentsModel", "put", "(IIJ)Z"⟩
abbrev bM_put : ByteArray := prog_9_method_13_code
abbrev yM_link : MethodName := ⟨"PropertyDocumentsModel", "link", "(III)Z"⟩
abbrev bM_link : ByteArray := prog_9_method_14_code
abbrev yM_value : MethodName := ⟨"PropertyDocumentsModel", "value", "(II)J"⟩
abbrev bM_value : ByteArray := prog_9_method_15_code
abbrev yM_linked : MethodName := ⟨"PropertyDocumentsModel", "linked", "(II)I"⟩
abbrev bM_linked : ByteArray := prog_9_method_16_code
abbrev yM_classOf : MethodName := ⟨"PropertyDocumentsModel", "classOf", "(I)I"⟩
abbrev bM_classOf : ByteArray := prog_9_method_17_code
abbrev yM_objects : MethodName := ⟨"PropertyDocumentsModel", "objects", "()I"⟩
abbrev bM_objects : ByteArray := prog_9_method_18_code
abbrev yM_drop : MethodName := ⟨"PropertyDocumentsModel", "drop", "()V"⟩
abbrev bM_drop : ByteArray := prog_9_method_19_code
abbrev yM_init : MethodName := ⟨"PropertyDocumentsModel", "<init>", "()V"⟩
abbrev bM_init : ByteArray := prog_9_method_1_code
abbrev yM_write : MethodName := ⟨"PropertyDocumentsModel", "write", "(I)V"⟩
abbrev bM_write : ByteArray := prog_9_method_20_code
abbrev yM_writeNumber : MethodName := ⟨"PropertyDocumentsModel", "writeNumber", "(JI)V"⟩
abbrev bM_writeNumber : ByteArray := prog_9_method_21_code
abbrev yM_begin : MethodName := ⟨"PropertyDocumentsModel", "begin", "(II)V"⟩
abbrev bM_begin : ByteArray := prog_9_method_22_code
abbrev yM_end : MethodName := ⟨"PropertyDocumentsModel", "end", "()V"⟩
abbrev bM_end : ByteArray := prog_9_method_23_code
abbrev yM_element : MethodName := ⟨"PropertyDocumentsModel", "element", "(II)V"⟩
abbrev bM_element : ByteArray := prog_9_method_24_code
abbrev yM_encode : MethodName := ⟨"PropertyDocumentsModel", "encode", "(II)I"⟩
abbrev bM_encode : ByteArray := prog_9_method_25_code
abbrev yM_next : MethodName := ⟨"PropertyDocumentsModel", "next", "()I"⟩
abbrev bM_next : ByteArray := prog_9_method_26_code
abbrev yM_number : MethodName := ⟨"PropertyDocumentsModel", "number", "(I)I"⟩
abbrev bM_number : ByteArray := prog_9_method_27_code
abbrev yM_skip : MethodName := ⟨"PropertyDocumentsModel", "skip", "(I)V"⟩
abbrev bM_skip : ByteArray := prog_9_method_28_code
abbrev yM_line : MethodName := ⟨"PropertyDocumentsModel", "line", "()I"⟩
abbrev bM_line : ByteArray := prog_9_method_29_code
abbrev yM_isClass : MethodName := ⟨"PropertyDocumentsModel", "isClass", "(I)Z"⟩
abbrev bM_isClass : ByteArray := prog_9_method_2_code
abbrev yM_readDocument : MethodName := ⟨"PropertyDocumentsModel", "readDocument", "()V"⟩
abbrev bM_readDocument : ByteArray := prog_9_method_30_code
abbrev yM_readElement : MethodName := ⟨"PropertyDocumentsModel", "readElement", "(I)V"⟩
abbrev bM_readElement : ByteArray := prog_9_method_31_code
abbrev yM_read : MethodName := ⟨"PropertyDocumentsModel", "read", "()Z"⟩
abbrev bM_read : ByteArray := prog_9_method_32_code
abbrev yM_sound : MethodName := ⟨"PropertyDocumentsModel", "sound", "()Z"⟩
abbrev bM_sound : ByteArray := prog_9_method_33_code
abbrev yM_depth : MethodName := ⟨"PropertyDocumentsModel", "depth", "()I"⟩
abbrev bM_depth : ByteArray := prog_9_method_34_code
abbrev yM_elements : MethodName := ⟨"PropertyDocumentsModel", "elements", "()I"⟩
abbrev bM_elements : ByteArray := prog_9_method_35_code
abbrev yM_isMark : MethodName := ⟨"PropertyDocumentsModel", "isMark", "(I)Z"⟩
abbrev bM_isMark : ByteArray := prog_9_method_36_code
abbrev yM_mean : MethodName := ⟨"PropertyDocumentsModel", "mean", "(I)Z"⟩
abbrev bM_mean : ByteArray := prog_9_method_37_code
abbrev yM_about : MethodName := ⟨"PropertyDocumentsModel", "about", "(I)I"⟩
abbrev bM_about : ByteArray := prog_9_method_38_code
abbrev yM_typeFits : MethodName := ⟨"PropertyDocumentsModel", "typeFits", "(II)Z"⟩
abbrev bM_typeFits : ByteArray := prog_9_method_39_code
abbrev yM_isKind : MethodName := ⟨"PropertyDocumentsModel", "isKind", "(II)Z"⟩
abbrev bM_isKind : ByteArray := prog_9_method_3_code
abbrev yM_fits : MethodName := ⟨"PropertyDocumentsModel", "fits", "(I)Z"⟩
abbrev bM_fits : ByteArray := prog_9_method_40_code
abbrev yM_long64 : MethodName := ⟨"PropertyDocumentsModel", "long64", "(I)J"⟩
abbrev bM_long64 : ByteArray := prog_9_method_41_code
abbrev yM_take : MethodName := ⟨"PropertyDocumentsModel", "take", "(II)V"⟩
abbrev bM_take : ByteArray := prog_9_method_42_code
abbrev yM_decode : MethodName := ⟨"PropertyDocumentsModel", "decode", "(I)I"⟩
abbrev bM_decode : ByteArray := prog_9_method_43_code
abbrev yM_size : MethodName := ⟨"PropertyDocumentsModel", "size", "()I"⟩
abbrev bM_size : ByteArray := prog_9_method_44_code
abbrev yM_byteAt : MethodName := ⟨"PropertyDocumentsModel", "byteAt", "(I)I"⟩
abbrev bM_byteAt : ByteArray := prog_9_method_45_code
abbrev yM_poke : MethodName := ⟨"PropertyDocumentsModel", "poke", "(II)Z"⟩
abbrev bM_poke : ByteArray := prog_9_method_46_code
abbrev yM_cut : MethodName := ⟨"PropertyDocumentsModel", "cut", "(I)Z"⟩
abbrev bM_cut : ByteArray := prog_9_method_47_code
abbrev yM_isOf : MethodName := ⟨"PropertyDocumentsModel", "isOf", "(II)Z"⟩
abbrev bM_isOf : ByteArray := prog_9_method_4_code
abbrev yM_find : MethodName := ⟨"PropertyDocumentsModel", "find", "(II)I"⟩
abbrev bM_find : ByteArray := prog_9_method_5_code
abbrev yM_nth : MethodName := ⟨"PropertyDocumentsModel", "nth", "(II)I"⟩
abbrev bM_nth : ByteArray := prog_9_method_6_code
abbrev yM_define : MethodName := ⟨"PropertyDocumentsModel", "define", "(I)I"⟩
abbrev bM_define : ByteArray := prog_9_method_7_code
abbrev yM_property : MethodName := ⟨"PropertyDocumentsModel", "property", "(IIII)Z"⟩
abbrev bM_property : ByteArray := prog_9_method_8_code
abbrev yM_isObject : MethodName := ⟨"PropertyDocumentsModel", "isObject", "(I)Z"⟩
abbrev bM_isObject : ByteArray := prog_9_method_9_code
end
section
/-! decode rows of class PropertyDocuments$Bytes: laid by wip/gen/names.py -/
theorem dB_longAt_0 : decode bB_longAt 0 = .ok (.aload_n 0, 1) := by decide +kernel
theorem dB_longAt_1 : decode bB_longAt 1 = .ok (.iload_n 1, 1) := by decide +kernel
theorem dB_longAt_2 : decode bB_longAt 2 = .ok (.invokevirtual 35, 3) := by decide +kernel
theorem dB_longAt_5 : decode bB_longAt 5 = .ok (.i2l, 1) := by decide +kernel
theorem dB_longAt_6 : decode bB_longAt 6 = .ok (.ldc2_w 38, 3) := by decide +kernel
theorem dB_longAt_9 : decode bB_longAt 9 = .ok (.land, 1) := by decide +kernel
theorem dB_longAt_10 : decode bB_longAt 10 = .ok (.lstore_n 2, 1) := by decide +kernel
theorem dB_longAt_11 : decode bB_longAt 11 = .ok (.aload_n 0, 1) := by decide +kernel
theorem dB_longAt_12 : decode bB_longAt 12 = .ok (.iload_n 1, 1) := by decide +kernel
theorem dB_longAt_13 : decode bB_longAt 13 = .ok (.iconst 4, 1) := by decide +kernel
theorem dB_longAt_14 : decode bB_longAt 14 = .ok (.iadd, 1) := by decide +kernel
theorem dB_longAt_15 : decode bB_longAt 15 = .ok (.invokevirtual 35, 3) := by decide +kernel
theorem dB_longAt_18 : decode bB_longAt 18 = .ok (.i2l, 1) := by decide +kernel
theorem dB_longAt_19 : decode bB_longAt 19 = .ok (.lstore 4, 2) := by decide +kernel
theorem dB_longAt_21 : decode bB_longAt 21 = .ok (.lload 4, 2) := by decide +kernel
theorem dB_longAt_23 : decode bB_longAt 23 = .ok (.bipush 32, 2) := by decide +kernel
theorem dB_longAt_25 : decode bB_longAt 25 = .ok (.lshl, 1) := by decide +kernel
theorem dB_longAt_26 : decode bB_longAt 26 = .ok (.lload_n 2, 1) := by decide +kernel
theorem dB_longAt_27 : decode bB_longAt 27 = .ok (.lor, 1) := by decide +kernel
theorem dB_longAt_28 : decode bB_longAt 28 = .ok (.lreturn, 1) := by decide +kernel
theorem dB_copyFrom_0 : decode bB_copyFrom 0 = .ok (.aload_n 1, 1) := by decide +kernel
theorem dB_copyFrom_1 : decode bB_copyFrom 1 = .ok (.getfield 9, 3) := by decide +kernel
theorem dB_copyFrom_4 : decode bB_copyFrom 4 = .ok (.iconst 0, 1) := by decide +kernel
theorem dB_copyFrom_5 : decode bB_copyFrom 5 = .ok (.aload_n 0, 1) := by decide +kernel
theorem dB_copyFrom_6 : decode bB_copyFrom 6 = .ok (.getfield 9, 3) := by decide +kernel
theorem dB_copyFrom_9 : decode bB_copyFrom 9 = .ok (.iconst 0, 1) := by decide +kernel
theorem dB_copyFrom_10 : decode bB_copyFrom 10 = .ok (.aload_n 1, 1) := by decide +kernel
theorem dB_copyFrom_11 : decode bB_copyFrom 11 = .ok (.getfield 15, 3) := by decide +kernel
theorem dB_copyFrom_14 : decode bB_copyFrom 14 = .ok (.invokestatic 40, 3) := by decide +kernel
theorem dB_copyFrom_17 : decode bB_copyFrom 17 = .ok (.aload_n 0, 1) := by decide +kernel
theorem dB_copyFrom_18 : decode bB_copyFrom 18 = .ok (.aload_n 1, 1) := by decide +kernel
theorem dB_copyFrom_19 : decode bB_copyFrom 19 = .ok (.getfield 15, 3) := by decide +kernel
theorem dB_copyFrom_22 : decode bB_copyFrom 22 = .ok (.putfield 15, 3) := by decide +kernel
theorem dB_copyFrom_25 : decode bB_copyFrom 25 = .ok (.return_, 1) := by decide +kernel
theorem dB_init_0 : decode bB_init 0 = .ok (.aload_n 0, 1) := by decide +kernel
theorem dB_init_1 : decode bB_init 1 = .ok (.invokespecial 3, 3) := by decide +kernel
theorem dB_init_4 : decode bB_init 4 = .ok (.aload_n 0, 1) := by decide +kernel
theorem dB_init_5 : decode bB_init 5 = .ok (.bipush 120, 2) := by decide +kernel
theorem dB_init_7 : decode bB_init 7 = .ok (.newarray .int, 2) := by decide +kernel
theorem dB_init_9 : decode bB_init 9 = .ok (.putfield 9, 3) := by decide +kernel
theorem dB_init_12 : decode bB_init 12 = .ok (.aload_n 0, 1) := by decide +kernel
theorem dB_init_13 : decode bB_init 13 = .ok (.iconst 0, 1) := by decide +kernel
theorem dB_init_14 : decode bB_init 14 = .ok (.putfield 15, 3) := by decide +kernel
theorem dB_init_17 : decode bB_init 17 = .ok (.return_, 1) := by decide +kernel
theorem dB_at_0 : decode bB_at 0 = .ok (.iload_n 1, 1) := by decide +kernel
theorem dB_at_1 : decode bB_at 1 = .ok (.ifCond .lt 20, 3) := by decide +kernel
theorem dB_at_4 : decode bB_at 4 = .ok (.iload_n 1, 1) := by decide +kernel
theorem dB_at_5 : decode bB_at 5 = .ok (.aload_n 0, 1) := by decide +kernel
theorem dB_at_6 : decode bB_at 6 = .ok (.getfield 15, 3) := by decide +kernel
theorem dB_at_9 : decode bB_at 9 = .ok (.if_icmp .ge 12, 3) := by decide +kernel
theorem dB_at_12 : decode bB_at 12 = .ok (.aload_n 0, 1) := by decide +kernel
theorem dB_at_13 : decode bB_at 13 = .ok (.getfield 9, 3) := by decide +kernel
theorem dB_at_16 : decode bB_at 16 = .ok (.iload_n 1, 1) := by decide +kernel
theorem dB_at_17 : decode bB_at 17 = .ok (.iaload, 1) := by decide +kernel
theorem dB_at_18 : decode bB_at 18 = .ok (.goto 4, 3) := by decide +kernel
theorem dB_at_21 : decode bB_at 21 = .ok (.iconst (-1), 1) := by decide +kernel
theorem dB_at_22 : decode bB_at 22 = .ok (.ireturn, 1) := by decide +kernel
theorem dB_add_0 : decode bB_add 0 = .ok (.aload_n 0, 1) := by decide +kernel
theorem dB_add_1 : decode bB_add 1 = .ok (.getfield 15, 3) := by decide +kernel
theorem dB_add_4 : decode bB_add 4 = .ok (.bipush 120, 2) := by decide +kernel
theorem dB_add_6 : decode bB_add 6 = .ok (.if_icmp .lt 5, 3) := by decide +kernel
theorem dB_add_9 : decode bB_add 9 = .ok (.iconst 0, 1) := by decide +kernel
theorem dB_add_10 : decode bB_add 10 = .ok (.ireturn, 1) := by decide +kernel
theorem dB_add_11 : decode bB_add 11 = .ok (.aload_n 0, 1) := by decide +kernel
theorem dB_add_12 : decode bB_add 12 = .ok (.getfield 9, 3) := by decide +kernel
theorem dB_add_15 : decode bB_add 15 = .ok (.aload_n 0, 1) := by decide +kernel
theorem dB_add_16 : decode bB_add 16 = .ok (.getfield 15, 3) := by decide +kernel
theorem dB_add_19 : decode bB_add 19 = .ok (.iload_n 1, 1) := by decide +kernel
theorem dB_add_20 : decode bB_add 20 = .ok (.iastore, 1) := by decide +kernel
theorem dB_add_21 : decode bB_add 21 = .ok (.aload_n 0, 1) := by decide +kernel
theorem dB_add_22 : decode bB_add 22 = .ok (.dup, 1) := by decide +kernel
theorem dB_add_23 : decode bB_add 23 = .ok (.getfield 15, 3) := by decide +kernel
theorem dB_add_26 : decode bB_add 26 = .ok (.iconst 1, 1) := by decide +kernel
theorem dB_add_27 : decode bB_add 27 = .ok (.iadd, 1) := by decide +kernel
theorem dB_add_28 : decode bB_add 28 = .ok (.putfield 15, 3) := by decide +kernel
theorem dB_add_31 : decode bB_add 31 = .ok (.iconst 1, 1) := by decide +kernel
theorem dB_add_32 : decode bB_add 32 = .ok (.ireturn, 1) := by decide +kernel
theorem dB_replace_0 : decode bB_replace 0 = .ok (.iload_n 1, 1) := by decide +kernel
theorem dB_replace_1 : decode bB_replace 1 = .ok (.ifCond .lt 11, 3) := by decide +kernel
theorem dB_replace_4 : decode bB_replace 4 = .ok (.iload_n 1, 1) := by decide +kernel
theorem dB_replace_5 : decode bB_replace 5 = .ok (.aload_n 0, 1) := by decide +kernel
theorem dB_replace_6 : decode bB_replace 6 = .ok (.getfield 15, 3) := by decide +kernel
theorem dB_replace_9 : decode bB_replace 9 = .ok (.if_icmp .lt 5, 3) := by decide +kernel
theorem dB_replace_12 : decode bB_replace 12 = .ok (.iconst 0, 1) := by decide +kernel
theorem dB_replace_13 : decode bB_replace 13 = .ok (.ireturn, 1) := by decide +kernel
theorem dB_replace_14 : decode bB_replace 14 = .ok (.aload_n 0, 1) := by decide +kernel
theorem dB_replace_15 : decode bB_replace 15 = .ok (.getfield 9, 3) := by decide +kernel
theorem dB_replace_18 : decode bB_replace 18 = .ok (.iload_n 1, 1) := by decide +kernel
theorem dB_replace_19 : decode bB_replace 19 = .ok (.iload_n 2, 1) := by decide +kernel
theorem dB_replace_20 : decode bB_replace 20 = .ok (.iastore, 1) := by decide +kernel
theorem dB_replace_21 : decode bB_replace 21 = .ok (.iconst 1, 1) := by decide +kernel
theorem dB_replace_22 : decode bB_replace 22 = .ok (.ireturn, 1) := by decide +kernel
theorem dB_addNumber_0 : decode bB_addNumber 0 = .ok (.iconst 1, 1) := by decide +kernel
theorem dB_addNumber_1 : decode bB_addNumber 1 = .ok (.istore 4, 2) := by decide +kernel
theorem dB_addNumber_3 : decode bB_addNumber 3 = .ok (.iconst 0, 1) := by decide +kernel
theorem dB_addNumber_4 : decode bB_addNumber 4 = .ok (.istore 5, 2) := by decide +kernel
theorem dB_addNumber_6 : decode bB_addNumber 6 = .ok (.iload 5, 2) := by decide +kernel
theorem dB_addNumber_8 : decode bB_addNumber 8 = .ok (.iload_n 3, 1) := by decide +kernel
theorem dB_addNumber_9 : decode bB_addNumber 9 = .ok (.if_icmp .ge 27, 3) := by decide +kernel
theorem dB_addNumber_12 : decode bB_addNumber 12 = .ok (.iload 4, 2) := by decide +kernel
theorem dB_addNumber_14 : decode bB_addNumber 14 = .ok (.ifCond .eq 22, 3) := by decide +kernel
theorem dB_addNumber_17 : decode bB_addNumber 17 = .ok (.aload_n 0, 1) := by decide +kernel
theorem dB_addNumber_18 : decode bB_addNumber 18 = .ok (.aload_n 0, 1) := by decide +kernel
theorem dB_addNumber_19 : decode bB_addNumber 19 = .ok (.lload_n 1, 1) := by decide +kernel
theorem dB_addNumber_20 : decode bB_addNumber 20 = .ok (.iload 5, 2) := by decide +kernel
theorem dB_addNumber_22 : decode bB_addNumber 22 = .ok (.invokevirtual 19, 3) := by decide +kernel
theorem dB_addNumber_25 : decode bB_addNumber 25 = .ok (.invokevirtual 23, 3) := by decide +kernel
theorem dB_addNumber_28 : decode bB_addNumber 28 = .ok (.istore 4, 2) := by decide +kernel
theorem dB_addNumber_30 : decode bB_addNumber 30 = .ok (.iinc 5 1, 3) := by decide +kernel
theorem dB_addNumber_33 : decode bB_addNumber 33 = .ok (.goto (-27), 3) := by decide +kernel
theorem dB_addNumber_36 : decode bB_addNumber 36 = .ok (.iload 4, 2) := by decide +kernel
theorem dB_addNumber_38 : decode bB_addNumber 38 = .ok (.ireturn, 1) := by decide +kernel
theorem dB_replaceNumber_0 : decode bB_replaceNumber 0 = .ok (.iconst 0, 1) := by decide +kernel
theorem dB_replaceNumber_1 : decode bB_replaceNumber 1 = .ok (.istore 5, 2) := by decide +kernel
theorem dB_replaceNumber_3 : decode bB_replaceNumber 3 = .ok (.iload 5, 2) := by decide +kernel
theorem dB_replaceNumber_5 : decode bB_replaceNumber 5 = .ok (.iload 4, 2) := by decide +kernel
theorem dB_replaceNumber_7 : decode bB_replaceNumber 7 = .ok (.if_icmp .ge 25, 3) := by decide +kernel
theorem dB_replaceNumber_10 : decode bB_replaceNumber 10 = .ok (.aload_n 0, 1) := by decide +kernel
theorem dB_replaceNumber_11 : decode bB_replaceNumber 11 = .ok (.iload_n 1, 1) := by decide +kernel
theorem dB_replaceNumber_12 : decode bB_replaceNumber 12 = .ok (.iload 5, 2) := by decide +kernel
theorem dB_replaceNumber_14 : decode bB_replaceNumber 14 = .ok (.iadd, 1) := by decide +kernel
theorem dB_replaceNumber_15 : decode bB_replaceNumber 15 = .ok (.aload_n 0, 1) := by decide +kernel
theorem dB_replaceNumber_16 : decode bB_replaceNumber 16 = .ok (.lload_n 2, 1) := by decide +kernel
theorem dB_replaceNumber_17 : decode bB_replaceNumber 17 = .ok (.iload 5, 2) := by decide +kernel
theorem dB_replaceNumber_19 : decode bB_replaceNumber 19 = .ok (.invokevirtual 19, 3) := by decide +kernel
theorem dB_replaceNumber_22 : decode bB_replaceNumber 22 = .ok (.invokevirtual 27, 3) := by decide +kernel
theorem dB_replaceNumber_25 : decode bB_replaceNumber 25 = .ok (.pop, 1) := by decide +kernel
theorem dB_replaceNumber_26 : decode bB_replaceNumber 26 = .ok (.iinc 5 1, 3) := by decide +kernel
theorem dB_replaceNumber_29 : decode bB_replaceNumber 29 = .ok (.goto (-26), 3) := by decide +kernel
theorem dB_replaceNumber_32 : decode bB_replaceNumber 32 = .ok (.return_, 1) := by decide +kernel
theorem dB_lowByte_0 : decode bB_lowByte 0 = .ok (.lload_n 1, 1) := by decide +kernel
theorem dB_lowByte_1 : decode bB_lowByte 1 = .ok (.bipush 8, 2) := by decide +kernel
theorem dB_lowByte_3 : decode bB_lowByte 3 = .ok (.iload_n 3, 1) := by decide +kernel
theorem dB_lowByte_4 : decode bB_lowByte 4 = .ok (.imul, 1) := by decide +kernel
theorem dB_lowByte_5 : decode bB_lowByte 5 = .ok (.lshr, 1) := by decide +kernel
theorem dB_lowByte_6 : decode bB_lowByte 6 = .ok (.l2i, 1) := by decide +kernel
theorem dB_lowByte_7 : decode bB_lowByte 7 = .ok (.sipush 255, 3) := by decide +kernel
theorem dB_lowByte_10 : decode bB_lowByte 10 = .ok (.iand, 1) := by decide +kernel
theorem dB_lowByte_11 : decode bB_lowByte 11 = .ok (.ireturn, 1) := by decide +kernel
theorem dB_holds_0 : decode bB_holds 0 = .ok (.iload_n 1, 1) := by decide +kernel
theorem dB_holds_1 : decode bB_holds 1 = .ok (.ifCond .lt 17, 3) := by decide +kernel
theorem dB_holds_4 : decode bB_holds 4 = .ok (.iload_n 1, 1) := by decide +kernel
theorem dB_holds_5 : decode bB_holds 5 = .ok (.aload_n 0, 1) := by decide +kernel
theorem dB_holds_6 : decode bB_holds 6 = .ok (.getfield 15, 3) := by decide +kernel
theorem dB_holds_9 : decode bB_holds 9 = .ok (.iload_n 2, 1) := by decide +kernel
theorem dB_holds_10 : decode bB_holds 10 = .ok (.isub, 1) := by decide +kernel
theorem dB_holds_11 : decode bB_holds 11 = .ok (.if_icmp .gt 7, 3) := by decide +kernel
theorem dB_holds_14 : decode bB_holds 14 = .ok (.iconst 1, 1) := by decide +kernel
theorem dB_holds_15 : decode bB_holds 15 = .ok (.goto 4, 3) := by decide +kernel
theorem dB_holds_18 : decode bB_holds 18 = .ok (.iconst 0, 1) := by decide +kernel
theorem dB_holds_19 : decode bB_holds 19 = .ok (.ireturn, 1) := by decide +kernel
theorem dB_intAt_0 : decode bB_intAt 0 = .ok (.iconst 0, 1) := by decide +kernel
theorem dB_intAt_1 : decode bB_intAt 1 = .ok (.istore_n 2, 1) := by decide +kernel
theorem dB_intAt_2 : decode bB_intAt 2 = .ok (.iconst 3, 1) := by decide +kernel
theorem dB_intAt_3 : decode bB_intAt 3 = .ok (.istore_n 3, 1) := by decide +kernel
theorem dB_intAt_4 : decode bB_intAt 4 = .ok (.iload_n 3, 1) := by decide +kernel
theorem dB_intAt_5 : decode bB_intAt 5 = .ok (.ifCond .lt 26, 3) := by decide +kernel
theorem dB_intAt_8 : decode bB_intAt 8 = .ok (.iload_n 2, 1) := by decide +kernel
theorem dB_intAt_9 : decode bB_intAt 9 = .ok (.bipush 8, 2) := by decide +kernel
theorem dB_intAt_11 : decode bB_intAt 11 = .ok (.ishl, 1) := by decide +kernel
theorem dB_intAt_12 : decode bB_intAt 12 = .ok (.aload_n 0, 1) := by decide +kernel
theorem dB_intAt_13 : decode bB_intAt 13 = .ok (.iload_n 1, 1) := by decide +kernel
theorem dB_intAt_14 : decode bB_intAt 14 = .ok (.iload_n 3, 1) := by decide +kernel
theorem dB_intAt_15 : decode bB_intAt 15 = .ok (.iadd, 1) := by decide +kernel
theorem dB_intAt_16 : decode bB_intAt 16 = .ok (.invokevirtual 31, 3) := by decide +kernel
theorem dB_intAt_19 : decode bB_intAt 19 = .ok (.sipush 255, 3) := by decide +kernel
theorem dB_intAt_22 : decode bB_intAt 22 = .ok (.iand, 1) := by decide +kernel
theorem dB_intAt_23 : decode bB_intAt 23 = .ok (.ior, 1) := by decide +kernel
theorem dB_intAt_24 : decode bB_intAt 24 = .ok (.istore_n 2, 1) := by decide +kernel
theorem dB_intAt_25 : decode bB_intAt 25 = .ok (.iinc 3 (-1), 3) := by decide +kernel
theorem dB_intAt_28 : decode bB_intAt 28 = .ok (.goto (-24), 3) := by decide +kernel
theorem dB_intAt_31 : decode bB_intAt 31 = .ok (.iload_n 2, 1) := by decide +kernel
theorem dB_intAt_32 : decode bB_intAt 32 = .ok (.ireturn, 1) := by decide +kernel
end
section
/-! decode rows of class PropertyDocuments$Description: laid by wip/gen/names.py -/
theorem dD_letter_0 : decode bD_letter 0 = .ok (.aload_n 0, 1) := by decide +kernel
theorem dD_letter_1 : decode bD_letter 1 = .ok (.iload_n 1, 1) := by decide +kernel
theorem dD_letter_2 : decode bD_letter 2 = .ok (.invokevirtual 45, 3) := by decide +kernel
theorem dD_letter_5 : decode bD_letter 5 = .ok (.ifCond .eq 12, 3) := by decide +kernel
theorem dD_letter_8 : decode bD_letter 8 = .ok (.aload_n 0, 1) := by decide +kernel
theorem dD_letter_9 : decode bD_letter 9 = .ok (.getfield 18, 3) := by decide +kernel
theorem dD_letter_12 : decode bD_letter 12 = .ok (.iload_n 1, 1) := by decide +kernel
theorem dD_letter_13 : decode bD_letter 13 = .ok (.iaload, 1) := by decide +kernel
theorem dD_letter_14 : decode bD_letter 14 = .ok (.goto 4, 3) := by decide +kernel
theorem dD_letter_17 : decode bD_letter 17 = .ok (.iconst (-1), 1) := by decide +kernel
theorem dD_letter_18 : decode bD_letter 18 = .ok (.ireturn, 1) := by decide +kernel
theorem dD_sort_0 : decode bD_sort 0 = .ok (.aload_n 0, 1) := by decide +kernel
theorem dD_sort_1 : decode bD_sort 1 = .ok (.iload_n 1, 1) := by decide +kernel
theorem dD_sort_2 : decode bD_sort 2 = .ok (.invokevirtual 45, 3) := by decide +kernel
theorem dD_sort_5 : decode bD_sort 5 = .ok (.ifCond .eq 12, 3) := by decide +kernel
theorem dD_sort_8 : decode bD_sort 8 = .ok (.aload_n 0, 1) := by decide +kernel
theorem dD_sort_9 : decode bD_sort 9 = .ok (.getfield 21, 3) := by decide +kernel
theorem dD_sort_12 : decode bD_sort 12 = .ok (.iload_n 1, 1) := by decide +kernel
theorem dD_sort_13 : decode bD_sort 13 = .ok (.iaload, 1) := by decide +kernel
theorem dD_sort_14 : decode bD_sort 14 = .ok (.goto 4, 3) := by decide +kernel
theorem dD_sort_17 : decode bD_sort 17 = .ok (.iconst (-1), 1) := by decide +kernel
theorem dD_sort_18 : decode bD_sort 18 = .ok (.ireturn, 1) := by decide +kernel
theorem dD_target_0 : decode bD_target 0 = .ok (.aload_n 0, 1) := by decide +kernel
theorem dD_target_1 : decode bD_target 1 = .ok (.iload_n 1, 1) := by decide +kernel
theorem dD_target_2 : decode bD_target 2 = .ok (.invokevirtual 45, 3) := by decide +kernel
theorem dD_target_5 : decode bD_target 5 = .ok (.ifCond .eq 12, 3) := by decide +kernel
theorem dD_target_8 : decode bD_target 8 = .ok (.aload_n 0, 1) := by decide +kernel
theorem dD_target_9 : decode bD_target 9 = .ok (.getfield 24, 3) := by decide +kernel
theorem dD_target_12 : decode bD_target 12 = .ok (.iload_n 1, 1) := by decide +kernel
theorem dD_target_13 : decode bD_target 13 = .ok (.iaload, 1) := by decide +kernel
theorem dD_target_14 : decode bD_target 14 = .ok (.goto 4, 3) := by decide +kernel
theorem dD_target_17 : decode bD_target 17 = .ok (.iconst (-1), 1) := by decide +kernel
theorem dD_target_18 : decode bD_target 18 = .ok (.ireturn, 1) := by decide +kernel
theorem dD_isLink_0 : decode bD_isLink 0 = .ok (.aload_n 0, 1) := by decide +kernel
theorem dD_isLink_1 : decode bD_isLink 1 = .ok (.iload_n 1, 1) := by decide +kernel
theorem dD_isLink_2 : decode bD_isLink 2 = .ok (.invokevirtual 48, 3) := by decide +kernel
theorem dD_isLink_5 : decode bD_isLink 5 = .ok (.iconst 3, 1) := by decide +kernel
theorem dD_isLink_6 : decode bD_isLink 6 = .ok (.if_icmp .ne 7, 3) := by decide +kernel
theorem dD_isLink_9 : decode bD_isLink 9 = .ok (.iconst 1, 1) := by decide +kernel
theorem dD_isLink_10 : decode bD_isLink 10 = .ok (.goto 4, 3) := by decide +kernel
theorem dD_isLink_13 : decode bD_isLink 13 = .ok (.iconst 0, 1) := by decide +kernel
theorem dD_isLink_14 : decode bD_isLink 14 = .ok (.ireturn, 1) := by decide +kernel
theorem dD_allowsValue_0 : decode bD_allowsValue 0 = .ok (.aload_n 0, 1) := by decide +kernel
theorem dD_allowsValue_1 : decode bD_allowsValue 1 = .ok (.iload_n 1, 1) := by decide +kernel
theorem dD_allowsValue_2 : decode bD_allowsValue 2 = .ok (.invokevirtual 48, 3) := by decide +kernel
theorem dD_allowsValue_5 : decode bD_allowsValue 5 = .ok (.tableswitch 61 0 2 #[27, 41, 43], 27) := by decide +kernel
theorem dD_allowsValue_32 : decode bD_allowsValue 32 = .ok (.lload_n 2, 1) := by decide +kernel
theorem dD_allowsValue_33 : decode bD_allowsValue 33 = .ok (.lload_n 2, 1) := by decide +kernel
theorem dD_allowsValue_34 : decode bD_allowsValue 34 = .ok (.l2i, 1) := by decide +kernel
theorem dD_allowsValue_35 : decode bD_allowsValue 35 = .ok (.i2l, 1) := by decide +kernel
theorem dD_allowsValue_36 : decode bD_allowsValue 36 = .ok (.lcmp, 1) := by decide +kernel
theorem dD_allowsValue_37 : decode bD_allowsValue 37 = .ok (.ifCond .ne 7, 3) := by decide +kernel
theorem dD_allowsValue_40 : decode bD_allowsValue 40 = .ok (.iconst 1, 1) := by decide +kernel
theorem dD_allowsValue_41 : decode bD_allowsValue 41 = .ok (.goto 4, 3) := by decide +kernel
theorem dD_allowsValue_44 : decode bD_allowsValue 44 = .ok (.iconst 0, 1) := by decide +kernel
theorem dD_allowsValue_45 : decode bD_allowsValue 45 = .ok (.ireturn, 1) := by decide +kernel
theorem dD_allowsValue_46 : decode bD_allowsValue 46 = .ok (.iconst 1, 1) := by decide +kernel
theorem dD_allowsValue_47 : decode bD_allowsValue 47 = .ok (.ireturn, 1) := by decide +kernel
theorem dD_allowsValue_48 : decode bD_allowsValue 48 = .ok (.lload_n 2, 1) := by decide +kernel
theorem dD_allowsValue_49 : decode bD_allowsValue 49 = .ok (.lconst 0, 1) := by decide +kernel
theorem dD_allowsValue_50 : decode bD_allowsValue 50 = .ok (.lcmp, 1) := by decide +kernel
theorem dD_allowsValue_51 : decode bD_allowsValue 51 = .ok (.ifCond .eq 9, 3) := by decide +kernel
theorem dD_allowsValue_54 : decode bD_allowsValue 54 = .ok (.lload_n 2, 1) := by decide +kernel
theorem dD_allowsValue_55 : decode bD_allowsValue 55 = .ok (.lconst 1, 1) := by decide +kernel
theorem dD_allowsValue_56 : decode bD_allowsValue 56 = .ok (.lcmp, 1) := by decide +kernel
theorem dD_allowsValue_57 : decode bD_allowsValue 57 = .ok (.ifCond .ne 7, 3) := by decide +kernel
theorem dD_allowsValue_60 : decode bD_allowsValue 60 = .ok (.iconst 1, 1) := by decide +kernel
theorem dD_allowsValue_61 : decode bD_allowsValue 61 = .ok (.goto 4, 3) := by decide +kernel
theorem dD_allowsValue_64 : decode bD_allowsValue 64 = .ok (.iconst 0, 1) := by decide +kernel
theorem dD_allowsValue_65 : decode bD_allowsValue 65 = .ok (.ireturn, 1) := by decide +kernel
theorem dD_allowsValue_66 : decode bD_allowsValue 66 = .ok (.iconst 0, 1) := by decide +kernel
theorem dD_allowsValue_67 : decode bD_allowsValue 67 = .ok (.ireturn, 1) := by decide +kernel
theorem dD_allowsType_0 : decode bD_allowsType 0 = .ok (.aload_n 0, 1) := by decide +kernel
theorem dD_allowsType_1 : decode bD_allowsType 1 = .ok (.iload_n 1, 1) := by decide +kernel
theorem dD_allowsType_2 : decode bD_allowsType 2 = .ok (.invokevirtual 48, 3) := by decide +kernel
theorem dD_allowsType_5 : decode bD_allowsType 5 = .ok (.tableswitch 90 0 3 #[31, 43, 61, 73], 31) := by decide +kernel
theorem dD_allowsType_36 : decode bD_allowsType 36 = .ok (.iload_n 2, 1) := by decide +kernel
theorem dD_allowsType_37 : decode bD_allowsType 37 = .ok (.bipush 16, 2) := by decide +kernel
theorem dD_allowsType_39 : decode bD_allowsType 39 = .ok (.if_icmp .ne 7, 3) := by decide +kernel
theorem dD_allowsType_42 : decode bD_allowsType 42 = .ok (.iconst 1, 1) := by decide +kernel
theorem dD_allowsType_43 : decode bD_allowsType 43 = .ok (.goto 4, 3) := by decide +kernel
theorem dD_allowsType_46 : decode bD_allowsType 46 = .ok (.iconst 0, 1) := by decide +kernel
theorem dD_allowsType_47 : decode bD_allowsType 47 = .ok (.ireturn, 1) := by decide +kernel
theorem dD_allowsType_48 : decode bD_allowsType 48 = .ok (.iload_n 2, 1) := by decide +kernel
theorem dD_allowsType_49 : decode bD_allowsType 49 = .ok (.bipush 18, 2) := by decide +kernel
theorem dD_allowsType_51 : decode bD_allowsType 51 = .ok (.if_icmp .eq 9, 3) := by decide +kernel
theorem dD_allowsType_54 : decode bD_allowsType 54 = .ok (.iload_n 2, 1) := by decide +kernel
theorem dD_allowsType_55 : decode bD_allowsType 55 = .ok (.bipush 16, 2) := by decide +kernel
theorem dD_allowsType_57 : decode bD_allowsType 57 = .ok (.if_icmp .ne 7, 3) := by decide +kernel
theorem dD_allowsType_60 : decode bD_allowsType 60 = .ok (.iconst 1, 1) := by decide +kernel
theorem dD_allowsType_61 : decode bD_allowsType 61 = .ok (.goto 4, 3) := by decide +kernel
theorem dD_allowsType_64 : decode bD_allowsType 64 = .ok (.iconst 0, 1) := by decide +kernel
theorem dD_allowsType_65 : decode bD_allowsType 65 = .ok (.ireturn, 1) := by decide +kernel
theorem dD_allowsType_66 : decode bD_allowsType 66 = .ok (.iload_n 2, 1) := by decide +kernel
theorem dD_allowsType_67 : decode bD_allowsType 67 = .ok (.bipush 8, 2) := by decide +kernel
theorem dD_allowsType_69 : decode bD_allowsType 69 = .ok (.if_icmp .ne 7, 3) := by decide +kernel
theorem dD_allowsType_72 : decode bD_allowsType 72 = .ok (.iconst 1, 1) := by decide +kernel
theorem dD_allowsType_73 : decode bD_allowsType 73 = .ok (.goto 4, 3) := by decide +kernel
theorem dD_allowsType_76 : decode bD_allowsType 76 = .ok (.iconst 0, 1) := by decide +kernel
theorem dD_allowsType_77 : decode bD_allowsType 77 = .ok (.ireturn, 1) := by decide +kernel
theorem dD_allowsType_78 : decode bD_allowsType 78 = .ok (.iload_n 2, 1) := by decide +kernel
theorem dD_allowsType_79 : decode bD_allowsType 79 = .ok (.bipush 10, 2) := by decide +kernel
theorem dD_allowsType_81 : decode bD_allowsType 81 = .ok (.if_icmp .eq 8, 3) := by decide +kernel
theorem dD_allowsType_84 : decode bD_allowsType 84 = .ok (.iload_n 2, 1) := by decide +kernel
theorem dD_allowsType_85 : decode bD_allowsType 85 = .ok (.iconst 3, 1) := by decide +kernel
theorem dD_allowsType_86 : decode bD_allowsType 86 = .ok (.if_icmp .ne 7, 3) := by decide +kernel
theorem dD_allowsType_89 : decode bD_allowsType 89 = .ok (.iconst 1, 1) := by decide +kernel
theorem dD_allowsType_90 : decode bD_allowsType 90 = .ok (.goto 4, 3) := by decide +kernel
theorem dD_allowsType_93 : decode bD_allowsType 93 = .ok (.iconst 0, 1) := by decide +kernel
theorem dD_allowsType_94 : decode bD_allowsType 94 = .ok (.ireturn, 1) := by decide +kernel
theorem dD_allowsType_95 : decode bD_allowsType 95 = .ok (.iconst 0, 1) := by decide +kernel
theorem dD_allowsType_96 : decode bD_allowsType 96 = .ok (.ireturn, 1) := by decide +kernel
theorem dD_init_0 : decode bD_init 0 = .ok (.aload_n 0, 1) := by decide +kernel
theorem dD_init_1 : decode bD_init 1 = .ok (.invokespecial 3, 3) := by decide +kernel
theorem dD_init_4 : decode bD_init 4 = .ok (.aload_n 0, 1) := by decide +kernel
theorem dD_init_5 : decode bD_init 5 = .ok (.bipush 6, 2) := by decide +kernel
theorem dD_init_7 : decode bD_init 7 = .ok (.newarray .int, 2) := by decide +kernel
theorem dD_init_9 : decode bD_init 9 = .ok (.putfield 9, 3) := by decide +kernel
theorem dD_init_12 : decode bD_init 12 = .ok (.aload_n 0, 1) := by decide +kernel
theorem dD_init_13 : decode bD_init 13 = .ok (.bipush 8, 2) := by decide +kernel
theorem dD_init_15 : decode bD_init 15 = .ok (.newarray .int, 2) := by decide +kernel
theorem dD_init_17 : decode bD_init 17 = .ok (.putfield 15, 3) := by decide +kernel
theorem dD_init_20 : decode bD_init 20 = .ok (.aload_n 0, 1) := by decide +kernel
theorem dD_init_21 : decode bD_init 21 = .ok (.bipush 8, 2) := by decide +kernel
theorem dD_init_23 : decode bD_init 23 = .ok (.newarray .int, 2) := by decide +kernel
theorem dD_init_25 : decode bD_init 25 = .ok (.putfield 18, 3) := by decide +kernel
theorem dD_init_28 : decode bD_init 28 = .ok (.aload_n 0, 1) := by decide +kernel
theorem dD_init_29 : decode bD_init 29 = .ok (.bipush 8, 2) := by decide +kernel
theorem dD_init_31 : decode bD_init 31 = .ok (.newarray .int, 2) := by decide +kernel
theorem dD_init_33 : decode bD_init 33 = .ok (.putfield 21, 3) := by decide +kernel
theorem dD_init_36 : decode bD_init 36 = .ok (.aload_n 0, 1) := by decide +kernel
theorem dD_init_37 : decode bD_init 37 = .ok (.bipush 8, 2) := by decide +kernel
theorem dD_init_39 : decode bD_init 39 = .ok (.newarray .int, 2) := by decide +kernel
theorem dD_init_41 : decode bD_init 41 = .ok (.putfield 24, 3) := by decide +kernel
theorem dD_init_44 : decode bD_init 44 = .ok (.aload_n 0, 1) := by decide +kernel
theorem dD_init_45 : decode bD_init 45 = .ok (.iconst 0, 1) := by decide +kernel
theorem dD_init_46 : decode bD_init 46 = .ok (.putfield 27, 3) := by decide +kernel
theorem dD_init_49 : decode bD_init 49 = .ok (.aload_n 0, 1) := by decide +kernel
theorem dD_init_50 : decode bD_init 50 = .ok (.iconst 0, 1) := by decide +kernel
theorem dD_init_51 : decode bD_init 51 = .ok (.putfield 31, 3) := by decide +kernel
theorem dD_init_54 : decode bD_init 54 = .ok (.return_, 1) := by decide +kernel
theorem dD_hasClass_0 : decode bD_hasClass 0 = .ok (.iload_n 1, 1) := by decide +kernel
theorem dD_hasClass_1 : decode bD_hasClass 1 = .ok (.ifCond .lt 15, 3) := by decide +kernel
theorem dD_hasClass_4 : decode bD_hasClass 4 = .ok (.iload_n 1, 1) := by decide +kernel
theorem dD_hasClass_5 : decode bD_hasClass 5 = .ok (.aload_n 0, 1) := by decide +kernel
theorem dD_hasClass_6 : decode bD_hasClass 6 = .ok (.getfield 27, 3) := by decide +kernel
theorem dD_hasClass_9 : decode bD_hasClass 9 = .ok (.if_icmp .ge 7, 3) := by decide +kernel
theorem dD_hasClass_12 : decode bD_hasClass 12 = .ok (.iconst 1, 1) := by decide +kernel
theorem dD_hasClass_13 : decode bD_hasClass 13 = .ok (.goto 4, 3) := by decide +kernel
theorem dD_hasClass_16 : decode bD_hasClass 16 = .ok (.iconst 0, 1) := by decide +kernel
theorem dD_hasClass_17 : decode bD_hasClass 17 = .ok (.ireturn, 1) := by decide +kernel
theorem dD_hasProperty_0 : decode bD_hasProperty 0 = .ok (.iload_n 1, 1) := by decide +kernel
theorem dD_hasProperty_1 : decode bD_hasProperty 1 = .ok (.ifCond .lt 15, 3) := by decide +kernel
theorem dD_hasProperty_4 : decode bD_hasProperty 4 = .ok (.iload_n 1, 1) := by decide +kernel
theorem dD_hasProperty_5 : decode bD_hasProperty 5 = .ok (.aload_n 0, 1) := by decide +kernel
theorem dD_hasProperty_6 : decode bD_hasProperty 6 = .ok (.getfield 31, 3) := by decide +kernel
theorem dD_hasProperty_9 : decode bD_hasProperty 9 = .ok (.if_icmp .ge 7, 3) := by decide +kernel
theorem dD_hasProperty_12 : decode bD_hasProperty 12 = .ok (.iconst 1, 1) := by decide +kernel
theorem dD_hasProperty_13 : decode bD_hasProperty 13 = .ok (.goto 4, 3) := by decide +kernel
theorem dD_hasProperty_16 : decode bD_hasProperty 16 = .ok (.iconst 0, 1) := by decide +kernel
theorem dD_hasProperty_17 : decode bD_hasProperty 17 = .ok (.ireturn, 1) := by decide +kernel
theorem dD_addClass_0 : decode bD_addClass 0 = .ok (.aload_n 0, 1) := by decide +kernel
theorem dD_addClass_1 : decode bD_addClass 1 = .ok (.getfield 27, 3) := by decide +kernel
theorem dD_addClass_4 : decode bD_addClass 4 = .ok (.bipush 6, 2) := by decide +kernel
theorem dD_addClass_6 : decode bD_addClass 6 = .ok (.if_icmp .ge 16, 3) := by decide +kernel
theorem dD_addClass_9 : decode bD_addClass 9 = .ok (.iload_n 1, 1) := by decide +kernel
theorem dD_addClass_10 : decode bD_addClass 10 = .ok (.iconst (-1), 1) := by decide +kernel
theorem dD_addClass_11 : decode bD_addClass 11 = .ok (.if_icmp .eq 13, 3) := by decide +kernel
theorem dD_addClass_14 : decode bD_addClass 14 = .ok (.aload_n 0, 1) := by decide +kernel
theorem dD_addClass_15 : decode bD_addClass 15 = .ok (.iload_n 1, 1) := by decide +kernel
theorem dD_addClass_16 : decode bD_addClass 16 = .ok (.invokevirtual 34, 3) := by decide +kernel
theorem dD_addClass_19 : decode bD_addClass 19 = .ok (.ifCond .ne 5, 3) := by decide +kernel
theorem dD_addClass_22 : decode bD_addClass 22 = .ok (.iconst (-1), 1) := by decide +kernel
theorem dD_addClass_23 : decode bD_addClass 23 = .ok (.ireturn, 1) := by decide +kernel
theorem dD_addClass_24 : decode bD_addClass 24 = .ok (.aload_n 0, 1) := by decide +kernel
theorem dD_addClass_25 : decode bD_addClass 25 = .ok (.getfield 9, 3) := by decide +kernel
theorem dD_addClass_28 : decode bD_addClass 28 = .ok (.aload_n 0, 1) := by decide +kernel
theorem dD_addClass_29 : decode bD_addClass 29 = .ok (.getfield 27, 3) := by decide +kernel
theorem dD_addClass_32 : decode bD_addClass 32 = .ok (.iload_n 1, 1) := by decide +kernel
theorem dD_addClass_33 : decode bD_addClass 33 = .ok (.iastore, 1) := by decide +kernel
theorem dD_addClass_34 : decode bD_addClass 34 = .ok (.aload_n 0, 1) := by decide +kernel
theorem dD_addClass_35 : decode bD_addClass 35 = .ok (.dup, 1) := by decide +kernel
theorem dD_addClass_36 : decode bD_addClass 36 = .ok (.getfield 27, 3) := by decide +kernel
theorem dD_addClass_39 : decode bD_addClass 39 = .ok (.iconst 1, 1) := by decide +kernel
theorem dD_addClass_40 : decode bD_addClass 40 = .ok (.iadd, 1) := by decide +kernel
theorem dD_addClass_41 : decode bD_addClass 41 = .ok (.putfield 27, 3) := by decide +kernel
theorem dD_addClass_44 : decode bD_addClass 44 = .ok (.aload_n 0, 1) := by decide +kernel
theorem dD_addClass_45 : decode bD_addClass 45 = .ok (.getfield 27, 3) := by decide +kernel
theorem dD_addClass_48 : decode bD_addClass 48 = .ok (.iconst 1, 1) := by decide +kernel
theorem dD_addClass_49 : decode bD_addClass 49 = .ok (.isub, 1) := by decide +kernel
theorem dD_addClass_50 : decode bD_addClass 50 = .ok (.ireturn, 1) := by decide +kernel
theorem dD_addProperty_0 : decode bD_addProperty 0 = .ok (.aload_n 0, 1) := by decide +kernel
theorem dD_addProperty_1 : decode bD_addProperty 1 = .ok (.getfield 31, 3) := by decide +kernel
theorem dD_addProperty_4 : decode bD_addProperty 4 = .ok (.bipush 8, 2) := by decide +kernel
theorem dD_addProperty_6 : decode bD_addProperty 6 = .ok (.if_icmp .ge 11, 3) := by decide +kernel
theorem dD_addProperty_9 : decode bD_addProperty 9 = .ok (.aload_n 0, 1) := by decide +kernel
theorem dD_addProperty_10 : decode bD_addProperty 10 = .ok (.iload_n 1, 1) := by decide +kernel
theorem dD_addProperty_11 : decode bD_addProperty 11 = .ok (.invokevirtual 34, 3) := by decide +kernel
theorem dD_addProperty_14 : decode bD_addProperty 14 = .ok (.ifCond .ne 5, 3) := by decide +kernel
theorem dD_addProperty_17 : decode bD_addProperty 17 = .ok (.iconst 0, 1) := by decide +kernel
theorem dD_addProperty_18 : decode bD_addProperty 18 = .ok (.ireturn, 1) := by decide +kernel
theorem dD_addProperty_19 : decode bD_addProperty 19 = .ok (.iload_n 2, 1) := by decide +kernel
theorem dD_addProperty_20 : decode bD_addProperty 20 = .ok (.ifCond .lt 18, 3) := by decide +kernel
theorem dD_addProperty_23 : decode bD_addProperty 23 = .ok (.iload_n 2, 1) := by decide +kernel
theorem dD_addProperty_24 : decode bD_addProperty 24 = .ok (.bipush 26, 2) := by decide +kernel
theorem dD_addProperty_26 : decode bD_addProperty 26 = .ok (.if_icmp .ge 12, 3) := by decide +kernel
theorem dD_addProperty_29 : decode bD_addProperty 29 = .ok (.iload_n 3, 1) := by decide +kernel
theorem dD_addProperty_30 : decode bD_addProperty 30 = .ok (.ifCond .lt 8, 3) := by decide +kernel
theorem dD_addProperty_33 : decode bD_addProperty 33 = .ok (.iload_n 3, 1) := by decide +kernel
theorem dD_addProperty_34 : decode bD_addProperty 34 = .ok (.iconst 3, 1) := by decide +kernel
theorem dD_addProperty_35 : decode bD_addProperty 35 = .ok (.if_icmp .le 5, 3) := by decide +kernel
theorem dD_addProperty_38 : decode bD_addProperty 38 = .ok (.iconst 0, 1) := by decide +kernel
theorem dD_addProperty_39 : decode bD_addProperty 39 = .ok (.ireturn, 1) := by decide +kernel
theorem dD_addProperty_40 : decode bD_addProperty 40 = .ok (.iload_n 3, 1) := by decide +kernel
theorem dD_addProperty_41 : decode bD_addProperty 41 = .ok (.iconst 3, 1) := by decide +kernel
theorem dD_addProperty_42 : decode bD_addProperty 42 = .ok (.if_icmp .ne 12, 3) := by decide +kernel
theorem dD_addProperty_45 : decode bD_addProperty 45 = .ok (.aload_n 0, 1) := by decide +kernel
theorem dD_addProperty_46 : decode bD_addProperty 46 = .ok (.iload 4, 2) := by decide +kernel
theorem dD_addProperty_48 : decode bD_addProperty 48 = .ok (.invokevirtual 34, 3) := by decide +kernel
theorem dD_addProperty_51 : decode bD_addProperty 51 = .ok (.ifCond .eq 12, 3) := by decide +kernel
theorem dD_addProperty_54 : decode bD_addProperty 54 = .ok (.aload_n 0, 1) := by decide +kernel
theorem dD_addProperty_55 : decode bD_addProperty 55 = .ok (.iload_n 1, 1) := by decide +kernel
theorem dD_addProperty_56 : decode bD_addProperty 56 = .ok (.iload_n 2, 1) := by decide +kernel
theorem dD_addProperty_57 : decode bD_addProperty 57 = .ok (.invokevirtual 38, 3) := by decide +kernel
theorem dD_addProperty_60 : decode bD_addProperty 60 = .ok (.ifCond .eq 5, 3) := by decide +kernel
theorem dD_addProperty_63 : decode bD_addProperty 63 = .ok (.iconst 0, 1) := by decide +kernel
theorem dD_addProperty_64 : decode bD_addProperty 64 = .ok (.ireturn, 1) := by decide +kernel
theorem dD_addProperty_65 : decode bD_addProperty 65 = .ok (.aload_n 0, 1) := by decide +kernel
theorem dD_addProperty_66 : decode bD_addProperty 66 = .ok (.getfield 15, 3) := by decide +kernel
theorem dD_addProperty_69 : decode bD_addProperty 69 = .ok (.aload_n 0, 1) := by decide +kernel
theorem dD_addProperty_70 : decode bD_addProperty 70 = .ok (.getfield 31, 3) := by decide +kernel
theorem dD_addProperty_73 : decode bD_addProperty 73 = .ok (.iload_n 1, 1) := by decide +kernel
theorem dD_addProperty_74 : decode bD_addProperty 74 = .ok (.iastore, 1) := by decide +kernel
theorem dD_addProperty_75 : decode bD_addProperty 75 = .ok (.aload_n 0, 1) := by decide +kernel
theorem dD_addProperty_76 : decode bD_addProperty 76 = .ok (.getfield 18, 3) := by decide +kernel
theorem dD_addProperty_79 : decode bD_addProperty 79 = .ok (.aload_n 0, 1) := by decide +kernel
theorem dD_addProperty_80 : decode bD_addProperty 80 = .ok (.getfield 31, 3) := by decide +kernel
theorem dD_addProperty_83 : decode bD_addProperty 83 = .ok (.iload_n 2, 1) := by decide +kernel
theorem dD_addProperty_84 : decode bD_addProperty 84 = .ok (.iastore, 1) := by decide +kernel
theorem dD_addProperty_85 : decode bD_addProperty 85 = .ok (.aload_n 0, 1) := by decide +kernel
theorem dD_addProperty_86 : decode bD_addProperty 86 = .ok (.getfield 21, 3) := by decide +kernel
theorem dD_addProperty_89 : decode bD_addProperty 89 = .ok (.aload_n 0, 1) := by decide +kernel
theorem dD_addProperty_90 : decode bD_addProperty 90 = .ok (.getfield 31, 3) := by decide +kernel
theorem dD_addProperty_93 : decode bD_addProperty 93 = .ok (.iload_n 3, 1) := by decide +kernel
theorem dD_addProperty_94 : decode bD_addProperty 94 = .ok (.iastore, 1) := by decide +kernel
theorem dD_addProperty_95 : decode bD_addProperty 95 = .ok (.aload_n 0, 1) := by decide +kernel
theorem dD_addProperty_96 : decode bD_addProperty 96 = .ok (.getfield 24, 3) := by decide +kernel
theorem dD_addProperty_99 : decode bD_addProperty 99 = .ok (.aload_n 0, 1) := by decide +kernel
theorem dD_addProperty_100 : decode bD_addProperty 100 = .ok (.getfield 31, 3) := by decide +kernel
theorem dD_addProperty_103 : decode bD_addProperty 103 = .ok (.iload 4, 2) := by decide +kernel
theorem dD_addProperty_105 : decode bD_addProperty 105 = .ok (.iastore, 1) := by decide +kernel
theorem dD_addProperty_106 : decode bD_addProperty 106 = .ok (.aload_n 0, 1) := by decide +kernel
theorem dD_addProperty_107 : decode bD_addProperty 107 = .ok (.dup, 1) := by decide +kernel
theorem dD_addProperty_108 : decode bD_addProperty 108 = .ok (.getfield 31, 3) := by decide +kernel
theorem dD_addProperty_111 : decode bD_addProperty 111 = .ok (.iconst 1, 1) := by decide +kernel
theorem dD_addProperty_112 : decode bD_addProperty 112 = .ok (.iadd, 1) := by decide +kernel
theorem dD_addProperty_113 : decode bD_addProperty 113 = .ok (.putfield 31, 3) := by decide +kernel
theorem dD_addProperty_116 : decode bD_addProperty 116 = .ok (.iconst 1, 1) := by decide +kernel
theorem dD_addProperty_117 : decode bD_addProperty 117 = .ok (.ireturn, 1) := by decide +kernel
theorem dD_isTaken_0 : decode bD_isTaken 0 = .ok (.iconst 0, 1) := by decide +kernel
theorem dD_isTaken_1 : decode bD_isTaken 1 = .ok (.istore_n 3, 1) := by decide +kernel
theorem dD_isTaken_2 : decode bD_isTaken 2 = .ok (.iload_n 3, 1) := by decide +kernel
theorem dD_isTaken_3 : decode bD_isTaken 3 = .ok (.aload_n 0, 1) := by decide +kernel
theorem dD_isTaken_4 : decode bD_isTaken 4 = .ok (.getfield 31, 3) := by decide +kernel
theorem dD_isTaken_7 : decode bD_isTaken 7 = .ok (.if_icmp .ge 49, 3) := by decide +kernel
theorem dD_isTaken_10 : decode bD_isTaken 10 = .ok (.aload_n 0, 1) := by decide +kernel
theorem dD_isTaken_11 : decode bD_isTaken 11 = .ok (.getfield 18, 3) := by decide +kernel
theorem dD_isTaken_14 : decode bD_isTaken 14 = .ok (.iload_n 3, 1) := by decide +kernel
theorem dD_isTaken_15 : decode bD_isTaken 15 = .ok (.iaload, 1) := by decide +kernel
theorem dD_isTaken_16 : decode bD_isTaken 16 = .ok (.iload_n 2, 1) := by decide +kernel
theorem dD_isTaken_17 : decode bD_isTaken 17 = .ok (.if_icmp .ne 33, 3) := by decide +kernel
theorem dD_isTaken_20 : decode bD_isTaken 20 = .ok (.aload_n 0, 1) := by decide +kernel
theorem dD_isTaken_21 : decode bD_isTaken 21 = .ok (.iload_n 1, 1) := by decide +kernel
theorem dD_isTaken_22 : decode bD_isTaken 22 = .ok (.aload_n 0, 1) := by decide +kernel
theorem dD_isTaken_23 : decode bD_isTaken 23 = .ok (.getfield 15, 3) := by decide +kernel
theorem dD_isTaken_26 : decode bD_isTaken 26 = .ok (.iload_n 3, 1) := by decide +kernel
theorem dD_isTaken_27 : decode bD_isTaken 27 = .ok (.iaload, 1) := by decide +kernel
theorem dD_isTaken_28 : decode bD_isTaken 28 = .ok (.invokevirtual 42, 3) := by decide +kernel
theorem dD_isTaken_31 : decode bD_isTaken 31 = .ok (.ifCond .ne 17, 3) := by decide +kernel
theorem dD_isTaken_34 : decode bD_isTaken 34 = .ok (.aload_n 0, 1) := by decide +kernel
theorem dD_isTaken_35 : decode bD_isTaken 35 = .ok (.aload_n 0, 1) := by decide +kernel
theorem dD_isTaken_36 : decode bD_isTaken 36 = .ok (.getfield 15, 3) := by decide +kernel
theorem dD_isTaken_39 : decode bD_isTaken 39 = .ok (.iload_n 3, 1) := by decide +kernel
theorem dD_isTaken_40 : decode bD_isTaken 40 = .ok (.iaload, 1) := by decide +kernel
theorem dD_isTaken_41 : decode bD_isTaken 41 = .ok (.iload_n 1, 1) := by decide +kernel
theorem dD_isTaken_42 : decode bD_isTaken 42 = .ok (.invokevirtual 42, 3) := by decide +kernel
theorem dD_isTaken_45 : decode bD_isTaken 45 = .ok (.ifCond .eq 5, 3) := by decide +kernel
theorem dD_isTaken_48 : decode bD_isTaken 48 = .ok (.iconst 1, 1) := by decide +kernel
theorem dD_isTaken_49 : decode bD_isTaken 49 = .ok (.ireturn, 1) := by decide +kernel
theorem dD_isTaken_50 : decode bD_isTaken 50 = .ok (.iinc 3 1, 3) := by decide +kernel
theorem dD_isTaken_53 : decode bD_isTaken 53 = .ok (.goto (-51), 3) := by decide +kernel
theorem dD_isTaken_56 : decode bD_isTaken 56 = .ok (.iconst 0, 1) := by decide +kernel
theorem dD_isTaken_57 : decode bD_isTaken 57 = .ok (.ireturn, 1) := by decide +kernel
theorem dD_isKindOf_0 : decode bD_isKindOf 0 = .ok (.iload_n 1, 1) := by decide +kernel
theorem dD_isKindOf_1 : decode bD_isKindOf 1 = .ok (.istore_n 3, 1) := by decide +kernel
theorem dD_isKindOf_2 : decode bD_isKindOf 2 = .ok (.iconst 0, 1) := by decide +kernel
theorem dD_isKindOf_3 : decode bD_isKindOf 3 = .ok (.istore 4, 2) := by decide +kernel
theorem dD_isKindOf_5 : decode bD_isKindOf 5 = .ok (.iload 4, 2) := by decide +kernel
theorem dD_isKindOf_7 : decode bD_isKindOf 7 = .ok (.bipush 6, 2) := by decide +kernel
theorem dD_isKindOf_9 : decode bD_isKindOf 9 = .ok (.if_icmp .ge 31, 3) := by decide +kernel
theorem dD_isKindOf_12 : decode bD_isKindOf 12 = .ok (.aload_n 0, 1) := by decide +kernel
theorem dD_isKindOf_13 : decode bD_isKindOf 13 = .ok (.iload_n 3, 1) := by decide +kernel
theorem dD_isKindOf_14 : decode bD_isKindOf 14 = .ok (.invokevirtual 34, 3) := by decide +kernel
theorem dD_isKindOf_17 : decode bD_isKindOf 17 = .ok (.ifCond .eq 23, 3) := by decide +kernel
theorem dD_isKindOf_20 : decode bD_isKindOf 20 = .ok (.iload_n 3, 1) := by decide +kernel
theorem dD_isKindOf_21 : decode bD_isKindOf 21 = .ok (.iload_n 2, 1) := by decide +kernel
theorem dD_isKindOf_22 : decode bD_isKindOf 22 = .ok (.if_icmp .ne 5, 3) := by decide +kernel
theorem dD_isKindOf_25 : decode bD_isKindOf 25 = .ok (.iconst 1, 1) := by decide +kernel
theorem dD_isKindOf_26 : decode bD_isKindOf 26 = .ok (.ireturn, 1) := by decide +kernel
theorem dD_isKindOf_27 : decode bD_isKindOf 27 = .ok (.aload_n 0, 1) := by decide +kernel
theorem dD_isKindOf_28 : decode bD_isKindOf 28 = .ok (.getfield 9, 3) := by decide +kernel
theorem dD_isKindOf_31 : decode bD_isKindOf 31 = .ok (.iload_n 3, 1) := by decide +kernel
theorem dD_isKindOf_32 : decode bD_isKindOf 32 = .ok (.iaload, 1) := by decide +kernel
theorem dD_isKindOf_33 : decode bD_isKindOf 33 = .ok (.istore_n 3, 1) := by decide +kernel
theorem dD_isKindOf_34 : decode bD_isKindOf 34 = .ok (.iinc 4 1, 3) := by decide +kernel
theorem dD_isKindOf_37 : decode bD_isKindOf 37 = .ok (.goto (-32), 3) := by decide +kernel
theorem dD_isKindOf_40 : decode bD_isKindOf 40 = .ok (.iconst 0, 1) := by decide +kernel
theorem dD_isKindOf_41 : decode bD_isKindOf 41 = .ok (.ireturn, 1) := by decide +kernel
theorem dD_propertyOf_0 : decode bD_propertyOf 0 = .ok (.iconst 0, 1) := by decide +kernel
theorem dD_propertyOf_1 : decode bD_propertyOf 1 = .ok (.istore_n 3, 1) := by decide +kernel
theorem dD_propertyOf_2 : decode bD_propertyOf 2 = .ok (.iload_n 3, 1) := by decide +kernel
theorem dD_propertyOf_3 : decode bD_propertyOf 3 = .ok (.aload_n 0, 1) := by decide +kernel
theorem dD_propertyOf_4 : decode bD_propertyOf 4 = .ok (.getfield 31, 3) := by decide +kernel
theorem dD_propertyOf_7 : decode bD_propertyOf 7 = .ok (.if_icmp .ge 35, 3) := by decide +kernel
theorem dD_propertyOf_10 : decode bD_propertyOf 10 = .ok (.aload_n 0, 1) := by decide +kernel
theorem dD_propertyOf_11 : decode bD_propertyOf 11 = .ok (.getfield 18, 3) := by decide +kernel
theorem dD_propertyOf_14 : decode bD_propertyOf 14 = .ok (.iload_n 3, 1) := by decide +kernel
theorem dD_propertyOf_15 : decode bD_propertyOf 15 = .ok (.iaload, 1) := by decide +kernel
theorem dD_propertyOf_16 : decode bD_propertyOf 16 = .ok (.iload_n 2, 1) := by decide +kernel
theorem dD_propertyOf_17 : decode bD_propertyOf 17 = .ok (.if_icmp .ne 19, 3) := by decide +kernel
theorem dD_propertyOf_20 : decode bD_propertyOf 20 = .ok (.aload_n 0, 1) := by decide +kernel
theorem dD_propertyOf_21 : decode bD_propertyOf 21 = .ok (.iload_n 1, 1) := by decide +kernel
theorem dD_propertyOf_22 : decode bD_propertyOf 22 = .ok (.aload_n 0, 1) := by decide +kernel
theorem dD_propertyOf_23 : decode bD_propertyOf 23 = .ok (.getfield 15, 3) := by decide +kernel
theorem dD_propertyOf_26 : decode bD_propertyOf 26 = .ok (.iload_n 3, 1) := by decide +kernel
theorem dD_propertyOf_27 : decode bD_propertyOf 27 = .ok (.iaload, 1) := by decide +kernel
theorem dD_propertyOf_28 : decode bD_propertyOf 28 = .ok (.invokevirtual 42, 3) := by decide +kernel
theorem dD_propertyOf_31 : decode bD_propertyOf 31 = .ok (.ifCond .eq 5, 3) := by decide +kernel
theorem dD_propertyOf_34 : decode bD_propertyOf 34 = .ok (.iload_n 3, 1) := by decide +kernel
theorem dD_propertyOf_35 : decode bD_propertyOf 35 = .ok (.ireturn, 1) := by decide +kernel
theorem dD_propertyOf_36 : decode bD_propertyOf 36 = .ok (.iinc 3 1, 3) := by decide +kernel
theorem dD_propertyOf_39 : decode bD_propertyOf 39 = .ok (.goto (-37), 3) := by decide +kernel
theorem dD_propertyOf_42 : decode bD_propertyOf 42 = .ok (.iconst (-1), 1) := by decide +kernel
theorem dD_propertyOf_43 : decode bD_propertyOf 43 = .ok (.ireturn, 1) := by decide +kernel
theorem dD_isOwn_0 : decode bD_isOwn 0 = .ok (.aload_n 0, 1) := by decide +kernel
theorem dD_isOwn_1 : decode bD_isOwn 1 = .ok (.iload_n 1, 1) := by decide +kernel
theorem dD_isOwn_2 : decode bD_isOwn 2 = .ok (.invokevirtual 45, 3) := by decide +kernel
theorem dD_isOwn_5 : decode bD_isOwn 5 = .ok (.ifCond .eq 17, 3) := by decide +kernel
theorem dD_isOwn_8 : decode bD_isOwn 8 = .ok (.aload_n 0, 1) := by decide +kernel
theorem dD_isOwn_9 : decode bD_isOwn 9 = .ok (.getfield 15, 3) := by decide +kernel
theorem dD_isOwn_12 : decode bD_isOwn 12 = .ok (.iload_n 1, 1) := by decide +kernel
theorem dD_isOwn_13 : decode bD_isOwn 13 = .ok (.iaload, 1) := by decide +kernel
theorem dD_isOwn_14 : decode bD_isOwn 14 = .ok (.iload_n 2, 1) := by decide +kernel
theorem dD_isOwn_15 : decode bD_isOwn 15 = .ok (.if_icmp .ne 7, 3) := by decide +kernel
theorem dD_isOwn_18 : decode bD_isOwn 18 = .ok (.iconst 1, 1) := by decide +kernel
theorem dD_isOwn_19 : decode bD_isOwn 19 = .ok (.goto 4, 3) := by decide +kernel
theorem dD_isOwn_22 : decode bD_isOwn 22 = .ok (.iconst 0, 1) := by decide +kernel
theorem dD_isOwn_23 : decode bD_isOwn 23 = .ok (.ireturn, 1) := by decide +kernel
end
section
/-! decode rows of class PropertyDocuments$Fitting: laid by wip/gen/names.py -/
theorem dF_numberIn_0 : decode bF_numberIn 0 = .ok (.aload_n 0, 1) := by decide +kernel
theorem dF_numberIn_1 : decode bF_numberIn 1 = .ok (.getfield 28, 3) := by decide +kernel
theorem dF_numberIn_4 : decode bF_numberIn 4 = .ok (.iload_n 1, 1) := by decide +kernel
theorem dF_numberIn_5 : decode bF_numberIn 5 = .ok (.invokevirtual 62, 3) := by decide +kernel
theorem dF_numberIn_8 : decode bF_numberIn 8 = .ok (.istore_n 2, 1) := by decide +kernel
theorem dF_numberIn_9 : decode bF_numberIn 9 = .ok (.aload_n 0, 1) := by decide +kernel
theorem dF_numberIn_10 : decode bF_numberIn 10 = .ok (.getfield 28, 3) := by decide +kernel
theorem dF_numberIn_13 : decode bF_numberIn 13 = .ok (.iload_n 1, 1) := by decide +kernel
theorem dF_numberIn_14 : decode bF_numberIn 14 = .ok (.invokevirtual 65, 3) := by decide +kernel
theorem dF_numberIn_17 : decode bF_numberIn 17 = .ok (.lookupswitch 46 #[(16, 27), (18, 37)], 27) := by decide +kernel
theorem dF_numberIn_44 : decode bF_numberIn 44 = .ok (.aload_n 0, 1) := by decide +kernel
theorem dF_numberIn_45 : decode bF_numberIn 45 = .ok (.getfield 24, 3) := by decide +kernel
theorem dF_numberIn_48 : decode bF_numberIn 48 = .ok (.iload_n 2, 1) := by decide +kernel
theorem dF_numberIn_49 : decode bF_numberIn 49 = .ok (.invokevirtual 68, 3) := by decide +kernel
theorem dF_numberIn_52 : decode bF_numberIn 52 = .ok (.i2l, 1) := by decide +kernel
theorem dF_numberIn_53 : decode bF_numberIn 53 = .ok (.lreturn, 1) := by decide +kernel
theorem dF_numberIn_54 : decode bF_numberIn 54 = .ok (.aload_n 0, 1) := by decide +kernel
theorem dF_numberIn_55 : decode bF_numberIn 55 = .ok (.getfield 24, 3) := by decide +kernel
theorem dF_numberIn_58 : decode bF_numberIn 58 = .ok (.iload_n 2, 1) := by decide +kernel
theorem dF_numberIn_59 : decode bF_numberIn 59 = .ok (.invokevirtual 126, 3) := by decide +kernel
theorem dF_numberIn_62 : decode bF_numberIn 62 = .ok (.lreturn, 1) := by decide +kernel
theorem dF_numberIn_63 : decode bF_numberIn 63 = .ok (.aload_n 0, 1) := by decide +kernel
theorem dF_numberIn_64 : decode bF_numberIn 64 = .ok (.getfield 24, 3) := by decide +kernel
theorem dF_numberIn_67 : decode bF_numberIn 67 = .ok (.iload_n 2, 1) := by decide +kernel
theorem dF_numberIn_68 : decode bF_numberIn 68 = .ok (.invokevirtual 73, 3) := by decide +kernel
theorem dF_numberIn_71 : decode bF_numberIn 71 = .ok (.i2l, 1) := by decide +kernel
theorem dF_numberIn_72 : decode bF_numberIn 72 = .ok (.lreturn, 1) := by decide +kernel
theorem dF_init_0 : decode bF_init 0 = .ok (.aload_n 0, 1) := by decide +kernel
theorem dF_init_1 : decode bF_init 1 = .ok (.invokespecial 3, 3) := by decide +kernel
theorem dF_init_4 : decode bF_init 4 = .ok (.aload_n 0, 1) := by decide +kernel
theorem dF_init_5 : decode bF_init 5 = .ok (.bipush 30, 2) := by decide +kernel
theorem dF_init_7 : decode bF_init 7 = .ok (.newarray .int, 2) := by decide +kernel
theorem dF_init_9 : decode bF_init 9 = .ok (.putfield 11, 3) := by decide +kernel
theorem dF_init_12 : decode bF_init 12 = .ok (.aload_n 0, 1) := by decide +kernel
theorem dF_init_13 : decode bF_init 13 = .ok (.bipush 30, 2) := by decide +kernel
theorem dF_init_15 : decode bF_init 15 = .ok (.newarray .int, 2) := by decide +kernel
theorem dF_init_17 : decode bF_init 17 = .ok (.putfield 17, 3) := by decide +kernel
theorem dF_init_20 : decode bF_init 20 = .ok (.aload_n 0, 1) := by decide +kernel
theorem dF_init_21 : decode bF_init 21 = .ok (.aload_n 1, 1) := by decide +kernel
theorem dF_init_22 : decode bF_init 22 = .ok (.putfield 20, 3) := by decide +kernel
theorem dF_init_25 : decode bF_init 25 = .ok (.aload_n 0, 1) := by decide +kernel
theorem dF_init_26 : decode bF_init 26 = .ok (.aload_n 2, 1) := by decide +kernel
theorem dF_init_27 : decode bF_init 27 = .ok (.putfield 24, 3) := by decide +kernel
theorem dF_init_30 : decode bF_init 30 = .ok (.aload_n 0, 1) := by decide +kernel
theorem dF_init_31 : decode bF_init 31 = .ok (.aload_n 3, 1) := by decide +kernel
theorem dF_init_32 : decode bF_init 32 = .ok (.putfield 28, 3) := by decide +kernel
theorem dF_init_35 : decode bF_init 35 = .ok (.return_, 1) := by decide +kernel
theorem dF_fits_0 : decode bF_fits 0 = .ok (.aload_n 0, 1) := by decide +kernel
theorem dF_fits_1 : decode bF_fits 1 = .ok (.getfield 11, 3) := by decide +kernel
theorem dF_fits_4 : decode bF_fits 4 = .ok (.iconst 0, 1) := by decide +kernel
theorem dF_fits_5 : decode bF_fits 5 = .ok (.iload_n 1, 1) := by decide +kernel
theorem dF_fits_6 : decode bF_fits 6 = .ok (.iastore, 1) := by decide +kernel
theorem dF_fits_7 : decode bF_fits 7 = .ok (.iconst 1, 1) := by decide +kernel
theorem dF_fits_8 : decode bF_fits 8 = .ok (.istore_n 2, 1) := by decide +kernel
theorem dF_fits_9 : decode bF_fits 9 = .ok (.iconst 0, 1) := by decide +kernel
theorem dF_fits_10 : decode bF_fits 10 = .ok (.istore_n 3, 1) := by decide +kernel
theorem dF_fits_11 : decode bF_fits 11 = .ok (.iload_n 3, 1) := by decide +kernel
theorem dF_fits_12 : decode bF_fits 12 = .ok (.aload_n 0, 1) := by decide +kernel
theorem dF_fits_13 : decode bF_fits 13 = .ok (.getfield 28, 3) := by decide +kernel
theorem dF_fits_16 : decode bF_fits 16 = .ok (.getfield 32, 3) := by decide +kernel
theorem dF_fits_19 : decode bF_fits 19 = .ok (.if_icmp .ge 48, 3) := by decide +kernel
theorem dF_fits_22 : decode bF_fits 22 = .ok (.iload_n 2, 1) := by decide +kernel
theorem dF_fits_23 : decode bF_fits 23 = .ok (.ifCond .eq 44, 3) := by decide +kernel
theorem dF_fits_26 : decode bF_fits 26 = .ok (.aload_n 0, 1) := by decide +kernel
theorem dF_fits_27 : decode bF_fits 27 = .ok (.getfield 17, 3) := by decide +kernel
theorem dF_fits_30 : decode bF_fits 30 = .ok (.iload_n 3, 1) := by decide +kernel
theorem dF_fits_31 : decode bF_fits 31 = .ok (.aload_n 0, 1) := by decide +kernel
theorem dF_fits_32 : decode bF_fits 32 = .ok (.iload_n 3, 1) := by decide +kernel
theorem dF_fits_33 : decode bF_fits 33 = .ok (.invokevirtual 36, 3) := by decide +kernel
theorem dF_fits_36 : decode bF_fits 36 = .ok (.iastore, 1) := by decide +kernel
theorem dF_fits_37 : decode bF_fits 37 = .ok (.aload_n 0, 1) := by decide +kernel
theorem dF_fits_38 : decode bF_fits 38 = .ok (.getfield 17, 3) := by decide +kernel
theorem dF_fits_41 : decode bF_fits 41 = .ok (.iload_n 3, 1) := by decide +kernel
theorem dF_fits_42 : decode bF_fits 42 = .ok (.iaload, 1) := by decide +kernel
theorem dF_fits_43 : decode bF_fits 43 = .ok (.iconst (-1), 1) := by decide +kernel
theorem dF_fits_44 : decode bF_fits 44 = .ok (.if_icmp .eq 15, 3) := by decide +kernel
theorem dF_fits_47 : decode bF_fits 47 = .ok (.aload_n 0, 1) := by decide +kernel
theorem dF_fits_48 : decode bF_fits 48 = .ok (.iload_n 3, 1) := by decide +kernel
theorem dF_fits_49 : decode bF_fits 49 = .ok (.invokevirtual 40, 3) := by decide +kernel
theorem dF_fits_52 : decode bF_fits 52 = .ok (.ifCond .eq 7, 3) := by decide +kernel
theorem dF_fits_55 : decode bF_fits 55 = .ok (.iconst 1, 1) := by decide +kernel
theorem dF_fits_56 : decode bF_fits 56 = .ok (.goto 4, 3) := by decide +kernel
theorem dF_fits_59 : decode bF_fits 59 = .ok (.iconst 0, 1) := by decide +kernel
theorem dF_fits_60 : decode bF_fits 60 = .ok (.istore_n 2, 1) := by decide +kernel
theorem dF_fits_61 : decode bF_fits 61 = .ok (.iinc 3 1, 3) := by decide +kernel
theorem dF_fits_64 : decode bF_fits 64 = .ok (.goto (-53), 3) := by decide +kernel
theorem dF_fits_67 : decode bF_fits 67 = .ok (.iload_n 2, 1) := by decide +kernel
theorem dF_fits_68 : decode bF_fits 68 = .ok (.ireturn, 1) := by decide +kernel
theorem dF_findMeant_0 : decode bF_findMeant 0 = .ok (.aload_n 0, 1) := by decide +kernel
theorem dF_findMeant_1 : decode bF_findMeant 1 = .ok (.getfield 11, 3) := by decide +kernel
theorem dF_findMeant_4 : decode bF_findMeant 4 = .ok (.iload_n 1, 1) := by decide +kernel
theorem dF_findMeant_5 : decode bF_findMeant 5 = .ok (.iaload, 1) := by decide +kernel
theorem dF_findMeant_6 : decode bF_findMeant 6 = .ok (.istore_n 2, 1) := by decide +kernel
theorem dF_findMeant_7 : decode bF_findMeant 7 = .ok (.iconst 0, 1) := by decide +kernel
theorem dF_findMeant_8 : decode bF_findMeant 8 = .ok (.istore_n 3, 1) := by decide +kernel
theorem dF_findMeant_9 : decode bF_findMeant 9 = .ok (.iconst 0, 1) := by decide +kernel
theorem dF_findMeant_10 : decode bF_findMeant 10 = .ok (.istore 4, 2) := by decide +kernel
theorem dF_findMeant_12 : decode bF_findMeant 12 = .ok (.iload 4, 2) := by decide +kernel
theorem dF_findMeant_14 : decode bF_findMeant 14 = .ok (.aload_n 0, 1) := by decide +kernel
theorem dF_findMeant_15 : decode bF_findMeant 15 = .ok (.getfield 28, 3) := by decide +kernel
theorem dF_findMeant_18 : decode bF_findMeant 18 = .ok (.getfield 44, 3) := by decide +kernel
theorem dF_findMeant_21 : decode bF_findMeant 21 = .ok (.if_icmp .ge 44, 3) := by decide +kernel
theorem dF_findMeant_24 : decode bF_findMeant 24 = .ok (.aload_n 0, 1) := by decide +kernel
theorem dF_findMeant_25 : decode bF_findMeant 25 = .ok (.getfield 28, 3) := by decide +kernel
theorem dF_findMeant_28 : decode bF_findMeant 28 = .ok (.iload 4, 2) := by decide +kernel
theorem dF_findMeant_30 : decode bF_findMeant 30 = .ok (.invokevirtual 47, 3) := by decide +kernel
theorem dF_findMeant_33 : decode bF_findMeant 33 = .ok (.iload_n 1, 1) := by decide +kernel
theorem dF_findMeant_34 : decode bF_findMeant 34 = .ok (.if_icmp .ne 25, 3) := by decide +kernel
theorem dF_findMeant_37 : decode bF_findMeant 37 = .ok (.aload_n 0, 1) := by decide +kernel
theorem dF_findMeant_38 : decode bF_findMeant 38 = .ok (.getfield 28, 3) := by decide +kernel
theorem dF_findMeant_41 : decode bF_findMeant 41 = .ok (.iload 4, 2) := by decide +kernel
theorem dF_findMeant_43 : decode bF_findMeant 43 = .ok (.invokevirtual 50, 3) := by decide +kernel
theorem dF_findMeant_46 : decode bF_findMeant 46 = .ok (.ifCond .eq 13, 3) := by decide +kernel
theorem dF_findMeant_49 : decode bF_findMeant 49 = .ok (.aload_n 0, 1) := by decide +kernel
theorem dF_findMeant_50 : decode bF_findMeant 50 = .ok (.iload 4, 2) := by decide +kernel
theorem dF_findMeant_52 : decode bF_findMeant 52 = .ok (.invokevirtual 53, 3) := by decide +kernel
theorem dF_findMeant_55 : decode bF_findMeant 55 = .ok (.istore_n 2, 1) := by decide +kernel
theorem dF_findMeant_56 : decode bF_findMeant 56 = .ok (.iinc 3 1, 3) := by decide +kernel
theorem dF_findMeant_59 : decode bF_findMeant 59 = .ok (.iinc 4 1, 3) := by decide +kernel
theorem dF_findMeant_62 : decode bF_findMeant 62 = .ok (.goto (-50), 3) := by decide +kernel
theorem dF_findMeant_65 : decode bF_findMeant 65 = .ok (.iload_n 3, 1) := by decide +kernel
theorem dF_findMeant_66 : decode bF_findMeant 66 = .ok (.iconst 1, 1) := by decide +kernel
theorem dF_findMeant_67 : decode bF_findMeant 67 = .ok (.if_icmp .gt 24, 3) := by decide +kernel
theorem dF_findMeant_70 : decode bF_findMeant 70 = .ok (.aload_n 0, 1) := by decide +kernel
theorem dF_findMeant_71 : decode bF_findMeant 71 = .ok (.getfield 20, 3) := by decide +kernel
theorem dF_findMeant_74 : decode bF_findMeant 74 = .ok (.iload_n 2, 1) := by decide +kernel
theorem dF_findMeant_75 : decode bF_findMeant 75 = .ok (.aload_n 0, 1) := by decide +kernel
theorem dF_findMeant_76 : decode bF_findMeant 76 = .ok (.getfield 11, 3) := by decide +kernel
theorem dF_findMeant_79 : decode bF_findMeant 79 = .ok (.iload_n 1, 1) := by decide +kernel
theorem dF_findMeant_80 : decode bF_findMeant 80 = .ok (.iaload, 1) := by decide +kernel
theorem dF_findMeant_81 : decode bF_findMeant 81 = .ok (.invokevirtual 56, 3) := by decide +kernel
theorem dF_findMeant_84 : decode bF_findMeant 84 = .ok (.ifCond .eq 7, 3) := by decide +kernel
theorem dF_findMeant_87 : decode bF_findMeant 87 = .ok (.iload_n 2, 1) := by decide +kernel
theorem dF_findMeant_88 : decode bF_findMeant 88 = .ok (.goto 4, 3) := by decide +kernel
theorem dF_findMeant_91 : decode bF_findMeant 91 = .ok (.iconst (-1), 1) := by decide +kernel
theorem dF_findMeant_92 : decode bF_findMeant 92 = .ok (.ireturn, 1) := by decide +kernel
theorem dF_markedClass_0 : decode bF_markedClass 0 = .ok (.aload_n 0, 1) := by decide +kernel
theorem dF_markedClass_1 : decode bF_markedClass 1 = .ok (.getfield 28, 3) := by decide +kernel
theorem dF_markedClass_4 : decode bF_markedClass 4 = .ok (.iload_n 1, 1) := by decide +kernel
theorem dF_markedClass_5 : decode bF_markedClass 5 = .ok (.invokevirtual 62, 3) := by decide +kernel
theorem dF_markedClass_8 : decode bF_markedClass 8 = .ok (.istore_n 2, 1) := by decide +kernel
theorem dF_markedClass_9 : decode bF_markedClass 9 = .ok (.aload_n 0, 1) := by decide +kernel
theorem dF_markedClass_10 : decode bF_markedClass 10 = .ok (.getfield 28, 3) := by decide +kernel
theorem dF_markedClass_13 : decode bF_markedClass 13 = .ok (.iload_n 1, 1) := by decide +kernel
theorem dF_markedClass_14 : decode bF_markedClass 14 = .ok (.invokevirtual 65, 3) := by decide +kernel
theorem dF_markedClass_17 : decode bF_markedClass 17 = .ok (.iconst 2, 1) := by decide +kernel
theorem dF_markedClass_18 : decode bF_markedClass 18 = .ok (.if_icmp .ne 19, 3) := by decide +kernel
theorem dF_markedClass_21 : decode bF_markedClass 21 = .ok (.aload_n 0, 1) := by decide +kernel
theorem dF_markedClass_22 : decode bF_markedClass 22 = .ok (.getfield 24, 3) := by decide +kernel
theorem dF_markedClass_25 : decode bF_markedClass 25 = .ok (.iload_n 2, 1) := by decide +kernel
theorem dF_markedClass_26 : decode bF_markedClass 26 = .ok (.invokevirtual 68, 3) := by decide +kernel
theorem dF_markedClass_29 : decode bF_markedClass 29 = .ok (.iconst 2, 1) := by decide +kernel
theorem dF_markedClass_30 : decode bF_markedClass 30 = .ok (.if_icmp .ne 7, 3) := by decide +kernel
theorem dF_markedClass_33 : decode bF_markedClass 33 = .ok (.iconst 1, 1) := by decide +kernel
theorem dF_markedClass_34 : decode bF_markedClass 34 = .ok (.goto 4, 3) := by decide +kernel
theorem dF_markedClass_37 : decode bF_markedClass 37 = .ok (.iconst 0, 1) := by decide +kernel
theorem dF_markedClass_38 : decode bF_markedClass 38 = .ok (.istore_n 3, 1) := by decide +kernel
theorem dF_markedClass_39 : decode bF_markedClass 39 = .ok (.iload_n 3, 1) := by decide +kernel
theorem dF_markedClass_40 : decode bF_markedClass 40 = .ok (.ifCond .eq 19, 3) := by decide +kernel
theorem dF_markedClass_43 : decode bF_markedClass 43 = .ok (.aload_n 0, 1) := by decide +kernel
theorem dF_markedClass_44 : decode bF_markedClass 44 = .ok (.getfield 24, 3) := by decide +kernel
theorem dF_markedClass_47 : decode bF_markedClass 47 = .ok (.iload_n 2, 1) := by decide +kernel
theorem dF_markedClass_48 : decode bF_markedClass 48 = .ok (.iconst 4, 1) := by decide +kernel
theorem dF_markedClass_49 : decode bF_markedClass 49 = .ok (.iadd, 1) := by decide +kernel
theorem dF_markedClass_50 : decode bF_markedClass 50 = .ok (.invokevirtual 73, 3) := by decide +kernel
theorem dF_markedClass_53 : decode bF_markedClass 53 = .ok (.bipush 65, 2) := by decide +kernel
theorem dF_markedClass_55 : decode bF_markedClass 55 = .ok (.isub, 1) := by decide +kernel
theorem dF_markedClass_56 : decode bF_markedClass 56 = .ok (.goto 4, 3) := by decide +kernel
theorem dF_markedClass_59 : decode bF_markedClass 59 = .ok (.iconst (-1), 1) := by decide +kernel
theorem dF_markedClass_60 : decode bF_markedClass 60 = .ok (.ireturn, 1) := by decide +kernel
theorem dF_elementsFit_0 : decode bF_elementsFit 0 = .ok (.iconst 0, 1) := by decide +kernel
theorem dF_elementsFit_1 : decode bF_elementsFit 1 = .ok (.istore_n 2, 1) := by decide +kernel
theorem dF_elementsFit_2 : decode bF_elementsFit 2 = .ok (.iconst 0, 1) := by decide +kernel
theorem dF_elementsFit_3 : decode bF_elementsFit 3 = .ok (.istore_n 3, 1) := by decide +kernel
theorem dF_elementsFit_4 : decode bF_elementsFit 4 = .ok (.iload_n 3, 1) := by decide +kernel
theorem dF_elementsFit_5 : decode bF_elementsFit 5 = .ok (.aload_n 0, 1) := by decide +kernel
theorem dF_elementsFit_6 : decode bF_elementsFit 6 = .ok (.getfield 28, 3) := by decide +kernel
theorem dF_elementsFit_9 : decode bF_elementsFit 9 = .ok (.getfield 44, 3) := by decide +kernel
theorem dF_elementsFit_12 : decode bF_elementsFit 12 = .ok (.if_icmp .ge 84, 3) := by decide +kernel
theorem dF_elementsFit_15 : decode bF_elementsFit 15 = .ok (.aload_n 0, 1) := by decide +kernel
theorem dF_elementsFit_16 : decode bF_elementsFit 16 = .ok (.getfield 28, 3) := by decide +kernel
theorem dF_elementsFit_19 : decode bF_elementsFit 19 = .ok (.iload_n 3, 1) := by decide +kernel
theorem dF_elementsFit_20 : decode bF_elementsFit 20 = .ok (.invokevirtual 47, 3) := by decide +kernel
theorem dF_elementsFit_23 : decode bF_elementsFit 23 = .ok (.iload_n 1, 1) := by decide +kernel
theorem dF_elementsFit_24 : decode bF_elementsFit 24 = .ok (.if_icmp .ne 66, 3) := by decide +kernel
theorem dF_elementsFit_27 : decode bF_elementsFit 27 = .ok (.aload_n 0, 1) := by decide +kernel
theorem dF_elementsFit_28 : decode bF_elementsFit 28 = .ok (.getfield 28, 3) := by decide +kernel
theorem dF_elementsFit_31 : decode bF_elementsFit 31 = .ok (.iload_n 3, 1) := by decide +kernel
theorem dF_elementsFit_32 : decode bF_elementsFit 32 = .ok (.invokevirtual 50, 3) := by decide +kernel
theorem dF_elementsFit_35 : decode bF_elementsFit 35 = .ok (.ifCond .ne 55, 3) := by decide +kernel
theorem dF_elementsFit_38 : decode bF_elementsFit 38 = .ok (.aload_n 0, 1) := by decide +kernel
theorem dF_elementsFit_39 : decode bF_elementsFit 39 = .ok (.iload_n 3, 1) := by decide +kernel
theorem dF_elementsFit_40 : decode bF_elementsFit 40 = .ok (.invokevirtual 76, 3) := by decide +kernel
theorem dF_elementsFit_43 : decode bF_elementsFit 43 = .ok (.istore 4, 2) := by decide +kernel
theorem dF_elementsFit_45 : decode bF_elementsFit 45 = .ok (.aload_n 0, 1) := by decide +kernel
theorem dF_elementsFit_46 : decode bF_elementsFit 46 = .ok (.getfield 20, 3) := by decide +kernel
theorem dF_elementsFit_49 : decode bF_elementsFit 49 = .ok (.iload 4, 2) := by decide +kernel
theorem dF_elementsFit_51 : decode bF_elementsFit 51 = .ok (.aload_n 0, 1) := by decide +kernel
theorem dF_elementsFit_52 : decode bF_elementsFit 52 = .ok (.getfield 28, 3) := by decide +kernel
theorem dF_elementsFit_55 : decode bF_elementsFit 55 = .ok (.iload_n 3, 1) := by decide +kernel
theorem dF_elementsFit_56 : decode bF_elementsFit 56 = .ok (.invokevirtual 65, 3) := by decide +kernel
theorem dF_elementsFit_59 : decode bF_elementsFit 59 = .ok (.invokevirtual 79, 3) := by decide +kernel
theorem dF_elementsFit_62 : decode bF_elementsFit 62 = .ok (.ifCond .eq 12, 3) := by decide +kernel
theorem dF_elementsFit_65 : decode bF_elementsFit 65 = .ok (.iload_n 2, 1) := by decide +kernel
theorem dF_elementsFit_66 : decode bF_elementsFit 66 = .ok (.iconst 1, 1) := by decide +kernel
theorem dF_elementsFit_67 : decode bF_elementsFit 67 = .ok (.iload 4, 2) := by decide +kernel
theorem dF_elementsFit_69 : decode bF_elementsFit 69 = .ok (.ishl, 1) := by decide +kernel
theorem dF_elementsFit_70 : decode bF_elementsFit 70 = .ok (.iand, 1) := by decide +kernel
theorem dF_elementsFit_71 : decode bF_elementsFit 71 = .ok (.ifCond .eq 5, 3) := by decide +kernel
theorem dF_elementsFit_74 : decode bF_elementsFit 74 = .ok (.iconst 0, 1) := by decide +kernel
theorem dF_elementsFit_75 : decode bF_elementsFit 75 = .ok (.ireturn, 1) := by decide +kernel
theorem dF_elementsFit_76 : decode bF_elementsFit 76 = .ok (.iload_n 2, 1) := by decide +kernel
theorem dF_elementsFit_77 : decode bF_elementsFit 77 = .ok (.iconst 1, 1) := by decide +kernel
theorem dF_elementsFit_78 : decode bF_elementsFit 78 = .ok (.iload 4, 2) := by decide +kernel
theorem dF_elementsFit_80 : decode bF_elementsFit 80 = .ok (.ishl, 1) := by decide +kernel
theorem dF_elementsFit_81 : decode bF_elementsFit 81 = .ok (.ior, 1) := by decide +kernel
theorem dF_elementsFit_82 : decode bF_elementsFit 82 = .ok (.istore_n 2, 1) := by decide +kernel
theorem dF_elementsFit_83 : decode bF_elementsFit 83 = .ok (.aload_n 0, 1) := by decide +kernel
theorem dF_elementsFit_84 : decode bF_elementsFit 84 = .ok (.iload_n 3, 1) := by decide +kernel
theorem dF_elementsFit_85 : decode bF_elementsFit 85 = .ok (.iload 4, 2) := by decide +kernel
theorem dF_elementsFit_87 : decode bF_elementsFit 87 = .ok (.invokevirtual 82, 3) := by decide +kernel
theorem dF_elementsFit_90 : decode bF_elementsFit 90 = .ok (.iinc 3 1, 3) := by decide +kernel
theorem dF_elementsFit_93 : decode bF_elementsFit 93 = .ok (.goto (-89), 3) := by decide +kernel
theorem dF_elementsFit_96 : decode bF_elementsFit 96 = .ok (.iconst 1, 1) := by decide +kernel
theorem dF_elementsFit_97 : decode bF_elementsFit 97 = .ok (.ireturn, 1) := by decide +kernel
theorem dF_wantInside_0 : decode bF_wantInside 0 = .ok (.aload_n 0, 1) := by decide +kernel
theorem dF_wantInside_1 : decode bF_wantInside 1 = .ok (.getfield 28, 3) := by decide +kernel
theorem dF_wantInside_4 : decode bF_wantInside 4 = .ok (.iload_n 1, 1) := by decide +kernel
theorem dF_wantInside_5 : decode bF_wantInside 5 = .ok (.invokevirtual 86, 3) := by decide +kernel
theorem dF_wantInside_8 : decode bF_wantInside 8 = .ok (.istore_n 3, 1) := by decide +kernel
theorem dF_wantInside_9 : decode bF_wantInside 9 = .ok (.iload_n 3, 1) := by decide +kernel
theorem dF_wantInside_10 : decode bF_wantInside 10 = .ok (.ifCond .lt 26, 3) := by decide +kernel
theorem dF_wantInside_13 : decode bF_wantInside 13 = .ok (.iload_n 3, 1) := by decide +kernel
theorem dF_wantInside_14 : decode bF_wantInside 14 = .ok (.aload_n 0, 1) := by decide +kernel
theorem dF_wantInside_15 : decode bF_wantInside 15 = .ok (.getfield 11, 3) := by decide +kernel
theorem dF_wantInside_18 : decode bF_wantInside 18 = .ok (.arraylength, 1) := by decide +kernel
theorem dF_wantInside_19 : decode bF_wantInside 19 = .ok (.if_icmp .ge 17, 3) := by decide +kernel
theorem dF_wantInside_22 : decode bF_wantInside 22 = .ok (.aload_n 0, 1) := by decide +kernel
theorem dF_wantInside_23 : decode bF_wantInside 23 = .ok (.getfield 11, 3) := by decide +kernel
theorem dF_wantInside_26 : decode bF_wantInside 26 = .ok (.iload_n 3, 1) := by decide +kernel
theorem dF_wantInside_27 : decode bF_wantInside 27 = .ok (.aload_n 0, 1) := by decide +kernel
theorem dF_wantInside_28 : decode bF_wantInside 28 = .ok (.getfield 20, 3) := by decide +kernel
theorem dF_wantInside_31 : decode bF_wantInside 31 = .ok (.iload_n 2, 1) := by decide +kernel
theorem dF_wantInside_32 : decode bF_wantInside 32 = .ok (.invokevirtual 89, 3) := by decide +kernel
theorem dF_wantInside_35 : decode bF_wantInside 35 = .ok (.iastore, 1) := by decide +kernel
theorem dF_wantInside_36 : decode bF_wantInside 36 = .ok (.return_, 1) := by decide +kernel
theorem dF_propertyFor_0 : decode bF_propertyFor 0 = .ok (.aload_n 0, 1) := by decide +kernel
theorem dF_propertyFor_1 : decode bF_propertyFor 1 = .ok (.getfield 28, 3) := by decide +kernel
theorem dF_propertyFor_4 : decode bF_propertyFor 4 = .ok (.iload_n 1, 1) := by decide +kernel
theorem dF_propertyFor_5 : decode bF_propertyFor 5 = .ok (.invokevirtual 47, 3) := by decide +kernel
theorem dF_propertyFor_8 : decode bF_propertyFor 8 = .ok (.istore_n 2, 1) := by decide +kernel
theorem dF_propertyFor_9 : decode bF_propertyFor 9 = .ok (.iload_n 2, 1) := by decide +kernel
theorem dF_propertyFor_10 : decode bF_propertyFor 10 = .ok (.ifCond .lt 16, 3) := by decide +kernel
theorem dF_propertyFor_13 : decode bF_propertyFor 13 = .ok (.iload_n 2, 1) := by decide +kernel
theorem dF_propertyFor_14 : decode bF_propertyFor 14 = .ok (.aload_n 0, 1) := by decide +kernel
theorem dF_propertyFor_15 : decode bF_propertyFor 15 = .ok (.getfield 17, 3) := by decide +kernel
theorem dF_propertyFor_18 : decode bF_propertyFor 18 = .ok (.arraylength, 1) := by decide +kernel
theorem dF_propertyFor_19 : decode bF_propertyFor 19 = .ok (.if_icmp .ge 7, 3) := by decide +kernel
theorem dF_propertyFor_22 : decode bF_propertyFor 22 = .ok (.iconst 1, 1) := by decide +kernel
theorem dF_propertyFor_23 : decode bF_propertyFor 23 = .ok (.goto 4, 3) := by decide +kernel
theorem dF_propertyFor_26 : decode bF_propertyFor 26 = .ok (.iconst 0, 1) := by decide +kernel
theorem dF_propertyFor_27 : decode bF_propertyFor 27 = .ok (.istore_n 3, 1) := by decide +kernel
theorem dF_propertyFor_28 : decode bF_propertyFor 28 = .ok (.iload_n 3, 1) := by decide +kernel
theorem dF_propertyFor_29 : decode bF_propertyFor 29 = .ok (.ifCond .eq 27, 3) := by decide +kernel
theorem dF_propertyFor_32 : decode bF_propertyFor 32 = .ok (.aload_n 0, 1) := by decide +kernel
theorem dF_propertyFor_33 : decode bF_propertyFor 33 = .ok (.getfield 20, 3) := by decide +kernel
theorem dF_propertyFor_36 : decode bF_propertyFor 36 = .ok (.aload_n 0, 1) := by decide +kernel
theorem dF_propertyFor_37 : decode bF_propertyFor 37 = .ok (.getfield 17, 3) := by decide +kernel
theorem dF_propertyFor_40 : decode bF_propertyFor 40 = .ok (.iload_n 2, 1) := by decide +kernel
theorem dF_propertyFor_41 : decode bF_propertyFor 41 = .ok (.iaload, 1) := by decide +kernel
theorem dF_propertyFor_42 : decode bF_propertyFor 42 = .ok (.aload_n 0, 1) := by decide +kernel
theorem dF_propertyFor_43 : decode bF_propertyFor 43 = .ok (.getfield 28, 3) := by decide +kernel
theorem dF_propertyFor_46 : decode bF_propertyFor 46 = .ok (.iload_n 1, 1) := by decide +kernel
theorem dF_propertyFor_47 : decode bF_propertyFor 47 = .ok (.invokevirtual 92, 3) := by decide +kernel
theorem dF_propertyFor_50 : decode bF_propertyFor 50 = .ok (.invokevirtual 95, 3) := by decide +kernel
theorem dF_propertyFor_53 : decode bF_propertyFor 53 = .ok (.goto 4, 3) := by decide +kernel
theorem dF_propertyFor_56 : decode bF_propertyFor 56 = .ok (.iconst (-1), 1) := by decide +kernel
theorem dF_propertyFor_57 : decode bF_propertyFor 57 = .ok (.ireturn, 1) := by decide +kernel
theorem dF_fill_0 : decode bF_fill 0 = .ok (.aload_n 1, 1) := by decide +kernel
theorem dF_fill_1 : decode bF_fill 1 = .ok (.getfield 99, 3) := by decide +kernel
theorem dF_fill_4 : decode bF_fill 4 = .ok (.istore_n 2, 1) := by decide +kernel
theorem dF_fill_5 : decode bF_fill 5 = .ok (.iconst 0, 1) := by decide +kernel
theorem dF_fill_6 : decode bF_fill 6 = .ok (.istore_n 3, 1) := by decide +kernel
theorem dF_fill_7 : decode bF_fill 7 = .ok (.iload_n 3, 1) := by decide +kernel
theorem dF_fill_8 : decode bF_fill 8 = .ok (.aload_n 0, 1) := by decide +kernel
theorem dF_fill_9 : decode bF_fill 9 = .ok (.getfield 28, 3) := by decide +kernel
theorem dF_fill_12 : decode bF_fill 12 = .ok (.getfield 32, 3) := by decide +kernel
theorem dF_fill_15 : decode bF_fill 15 = .ok (.if_icmp .ge 20, 3) := by decide +kernel
theorem dF_fill_18 : decode bF_fill 18 = .ok (.aload_n 1, 1) := by decide +kernel
theorem dF_fill_19 : decode bF_fill 19 = .ok (.aload_n 0, 1) := by decide +kernel
theorem dF_fill_20 : decode bF_fill 20 = .ok (.getfield 17, 3) := by decide +kernel
theorem dF_fill_23 : decode bF_fill 23 = .ok (.iload_n 3, 1) := by decide +kernel
theorem dF_fill_24 : decode bF_fill 24 = .ok (.iaload, 1) := by decide +kernel
theorem dF_fill_25 : decode bF_fill 25 = .ok (.invokevirtual 104, 3) := by decide +kernel
theorem dF_fill_28 : decode bF_fill 28 = .ok (.pop, 1) := by decide +kernel
theorem dF_fill_29 : decode bF_fill 29 = .ok (.iinc 3 1, 3) := by decide +kernel
theorem dF_fill_32 : decode bF_fill 32 = .ok (.goto (-25), 3) := by decide +kernel
theorem dF_fill_35 : decode bF_fill 35 = .ok (.iconst 0, 1) := by decide +kernel
theorem dF_fill_36 : decode bF_fill 36 = .ok (.istore_n 3, 1) := by decide +kernel
theorem dF_fill_37 : decode bF_fill 37 = .ok (.iload_n 3, 1) := by decide +kernel
theorem dF_fill_38 : decode bF_fill 38 = .ok (.aload_n 0, 1) := by decide +kernel
theorem dF_fill_39 : decode bF_fill 39 = .ok (.getfield 28, 3) := by decide +kernel
theorem dF_fill_42 : decode bF_fill 42 = .ok (.getfield 44, 3) := by decide +kernel
theorem dF_fill_45 : decode bF_fill 45 = .ok (.if_icmp .ge 27, 3) := by decide +kernel
theorem dF_fill_48 : decode bF_fill 48 = .ok (.aload_n 0, 1) := by decide +kernel
theorem dF_fill_49 : decode bF_fill 49 = .ok (.getfield 28, 3) := by decide +kernel
theorem dF_fill_52 : decode bF_fill 52 = .ok (.iload_n 3, 1) := by decide +kernel
theorem dF_fill_53 : decode bF_fill 53 = .ok (.invokevirtual 50, 3) := by decide +kernel
theorem dF_fill_56 : decode bF_fill 56 = .ok (.ifCond .ne 10, 3) := by decide +kernel
theorem dF_fill_59 : decode bF_fill 59 = .ok (.aload_n 0, 1) := by decide +kernel
theorem dF_fill_60 : decode bF_fill 60 = .ok (.aload_n 1, 1) := by decide +kernel
theorem dF_fill_61 : decode bF_fill 61 = .ok (.iload_n 2, 1) := by decide +kernel
theorem dF_fill_62 : decode bF_fill 62 = .ok (.iload_n 3, 1) := by decide +kernel
theorem dF_fill_63 : decode bF_fill 63 = .ok (.invokevirtual 107, 3) := by decide +kernel
theorem dF_fill_66 : decode bF_fill 66 = .ok (.iinc 3 1, 3) := by decide +kernel
theorem dF_fill_69 : decode bF_fill 69 = .ok (.goto (-32), 3) := by decide +kernel
theorem dF_fill_72 : decode bF_fill 72 = .ok (.iload_n 2, 1) := by decide +kernel
theorem dF_fill_73 : decode bF_fill 73 = .ok (.ireturn, 1) := by decide +kernel
theorem dF_fillProperty_0 : decode bF_fillProperty 0 = .ok (.iload_n 2, 1) := by decide +kernel
theorem dF_fillProperty_1 : decode bF_fillProperty 1 = .ok (.aload_n 0, 1) := by decide +kernel
theorem dF_fillProperty_2 : decode bF_fillProperty 2 = .ok (.getfield 28, 3) := by decide +kernel
theorem dF_fillProperty_5 : decode bF_fillProperty 5 = .ok (.iload_n 3, 1) := by decide +kernel
theorem dF_fillProperty_6 : decode bF_fillProperty 6 = .ok (.invokevirtual 47, 3) := by decide +kernel
theorem dF_fillProperty_9 : decode bF_fillProperty 9 = .ok (.iadd, 1) := by decide +kernel
theorem dF_fillProperty_10 : decode bF_fillProperty 10 = .ok (.istore 4, 2) := by decide +kernel
theorem dF_fillProperty_12 : decode bF_fillProperty 12 = .ok (.aload_n 0, 1) := by decide +kernel
theorem dF_fillProperty_13 : decode bF_fillProperty 13 = .ok (.iload_n 3, 1) := by decide +kernel
theorem dF_fillProperty_14 : decode bF_fillProperty 14 = .ok (.invokevirtual 76, 3) := by decide +kernel
theorem dF_fillProperty_17 : decode bF_fillProperty 17 = .ok (.istore 5, 2) := by decide +kernel
theorem dF_fillProperty_19 : decode bF_fillProperty 19 = .ok (.aload_n 0, 1) := by decide +kernel
theorem dF_fillProperty_20 : decode bF_fillProperty 20 = .ok (.getfield 20, 3) := by decide +kernel
theorem dF_fillProperty_23 : decode bF_fillProperty 23 = .ok (.iload 5, 2) := by decide +kernel
theorem dF_fillProperty_25 : decode bF_fillProperty 25 = .ok (.invokevirtual 111, 3) := by decide +kernel
theorem dF_fillProperty_28 : decode bF_fillProperty 28 = .ok (.ifCond .ne 19, 3) := by decide +kernel
theorem dF_fillProperty_31 : decode bF_fillProperty 31 = .ok (.aload_n 1, 1) := by decide +kernel
theorem dF_fillProperty_32 : decode bF_fillProperty 32 = .ok (.iload 4, 2) := by decide +kernel
theorem dF_fillProperty_34 : decode bF_fillProperty 34 = .ok (.iload 5, 2) := by decide +kernel
theorem dF_fillProperty_36 : decode bF_fillProperty 36 = .ok (.aload_n 0, 1) := by decide +kernel
theorem dF_fillProperty_37 : decode bF_fillProperty 37 = .ok (.iload_n 3, 1) := by decide +kernel
theorem dF_fillProperty_38 : decode bF_fillProperty 38 = .ok (.invokevirtual 114, 3) := by decide +kernel
theorem dF_fillProperty_41 : decode bF_fillProperty 41 = .ok (.invokevirtual 118, 3) := by decide +kernel
theorem dF_fillProperty_44 : decode bF_fillProperty 44 = .ok (.goto 33, 3) := by decide +kernel
theorem dF_fillProperty_47 : decode bF_fillProperty 47 = .ok (.aload_n 0, 1) := by decide +kernel
theorem dF_fillProperty_48 : decode bF_fillProperty 48 = .ok (.getfield 28, 3) := by decide +kernel
theorem dF_fillProperty_51 : decode bF_fillProperty 51 = .ok (.iload_n 3, 1) := by decide +kernel
theorem dF_fillProperty_52 : decode bF_fillProperty 52 = .ok (.invokevirtual 86, 3) := by decide +kernel
theorem dF_fillProperty_55 : decode bF_fillProperty 55 = .ok (.iconst (-1), 1) := by decide +kernel
theorem dF_fillProperty_56 : decode bF_fillProperty 56 = .ok (.if_icmp .eq 21, 3) := by decide +kernel
theorem dF_fillProperty_59 : decode bF_fillProperty 59 = .ok (.aload_n 1, 1) := by decide +kernel
theorem dF_fillProperty_60 : decode bF_fillProperty 60 = .ok (.iload 4, 2) := by decide +kernel
theorem dF_fillProperty_62 : decode bF_fillProperty 62 = .ok (.iload 5, 2) := by decide +kernel
theorem dF_fillProperty_64 : decode bF_fillProperty 64 = .ok (.iload_n 2, 1) := by decide +kernel
theorem dF_fillProperty_65 : decode bF_fillProperty 65 = .ok (.aload_n 0, 1) := by decide +kernel
theorem dF_fillProperty_66 : decode bF_fillProperty 66 = .ok (.getfield 28, 3) := by decide +kernel
theorem dF_fillProperty_69 : decode bF_fillProperty 69 = .ok (.iload_n 3, 1) := by decide +kernel
theorem dF_fillProperty_70 : decode bF_fillProperty 70 = .ok (.invokevirtual 86, 3) := by decide +kernel
theorem dF_fillProperty_73 : decode bF_fillProperty 73 = .ok (.iadd, 1) := by decide +kernel
theorem dF_fillProperty_74 : decode bF_fillProperty 74 = .ok (.invokevirtual 122, 3) := by decide +kernel
theorem dF_fillProperty_77 : decode bF_fillProperty 77 = .ok (.return_, 1) := by decide +kernel
end
section
/-! decode rows of class PropertyDocuments$Instances: laid by wip/gen/names.py -/
theorem dI_setPartner_0 : decode bI_setPartner 0 = .ok (.aload_n 0, 1) := by decide +kernel
theorem dI_setPartner_1 : decode bI_setPartner 1 = .ok (.iload_n 1, 1) := by decide +kernel
theorem dI_setPartner_2 : decode bI_setPartner 2 = .ok (.iload_n 2, 1) := by decide +kernel
theorem dI_setPartner_3 : decode bI_setPartner 3 = .ok (.invokevirtual 38, 3) := by decide +kernel
theorem dI_setPartner_6 : decode bI_setPartner 6 = .ok (.ifCond .eq 15, 3) := by decide +kernel
theorem dI_setPartner_9 : decode bI_setPartner 9 = .ok (.aload_n 0, 1) := by decide +kernel
theorem dI_setPartner_10 : decode bI_setPartner 10 = .ok (.getfield 19, 3) := by decide +kernel
theorem dI_setPartner_13 : decode bI_setPartner 13 = .ok (.aload_n 0, 1) := by decide +kernel
theorem dI_setPartner_14 : decode bI_setPartner 14 = .ok (.iload_n 1, 1) := by decide +kernel
theorem dI_setPartner_15 : decode bI_setPartner 15 = .ok (.iload_n 2, 1) := by decide +kernel
theorem dI_setPartner_16 : decode bI_setPartner 16 = .ok (.invokevirtual 42, 3) := by decide +kernel
theorem dI_setPartner_19 : decode bI_setPartner 19 = .ok (.iload_n 3, 1) := by decide +kernel
theorem dI_setPartner_20 : decode bI_setPartner 20 = .ok (.iastore, 1) := by decide +kernel
theorem dI_setPartner_21 : decode bI_setPartner 21 = .ok (.return_, 1) := by decide +kernel
theorem dI_init_0 : decode bI_init 0 = .ok (.aload_n 0, 1) := by decide +kernel
theorem dI_init_1 : decode bI_init 1 = .ok (.invokespecial 3, 3) := by decide +kernel
theorem dI_init_4 : decode bI_init 4 = .ok (.aload_n 0, 1) := by decide +kernel
theorem dI_init_5 : decode bI_init 5 = .ok (.bipush 12, 2) := by decide +kernel
theorem dI_init_7 : decode bI_init 7 = .ok (.newarray .int, 2) := by decide +kernel
theorem dI_init_9 : decode bI_init 9 = .ok (.putfield 9, 3) := by decide +kernel
theorem dI_init_12 : decode bI_init 12 = .ok (.aload_n 0, 1) := by decide +kernel
theorem dI_init_13 : decode bI_init 13 = .ok (.bipush 96, 2) := by decide +kernel
theorem dI_init_15 : decode bI_init 15 = .ok (.newarray .long, 2) := by decide +kernel
theorem dI_init_17 : decode bI_init 17 = .ok (.putfield 15, 3) := by decide +kernel
theorem dI_init_20 : decode bI_init 20 = .ok (.aload_n 0, 1) := by decide +kernel
theorem dI_init_21 : decode bI_init 21 = .ok (.bipush 96, 2) := by decide +kernel
theorem dI_init_23 : decode bI_init 23 = .ok (.newarray .int, 2) := by decide +kernel
theorem dI_init_25 : decode bI_init 25 = .ok (.putfield 19, 3) := by decide +kernel
theorem dI_init_28 : decode bI_init 28 = .ok (.aload_n 0, 1) := by decide +kernel
theorem dI_init_29 : decode bI_init 29 = .ok (.iconst 0, 1) := by decide +kernel
theorem dI_init_30 : decode bI_init 30 = .ok (.putfield 22, 3) := by decide +kernel
theorem dI_init_33 : decode bI_init 33 = .ok (.return_, 1) := by decide +kernel
theorem dI_has_0 : decode bI_has 0 = .ok (.iload_n 1, 1) := by decide +kernel
theorem dI_has_1 : decode bI_has 1 = .ok (.ifCond .lt 15, 3) := by decide +kernel
theorem dI_has_4 : decode bI_has 4 = .ok (.iload_n 1, 1) := by decide +kernel
theorem dI_has_5 : decode bI_has 5 = .ok (.aload_n 0, 1) := by decide +kernel
theorem dI_has_6 : decode bI_has 6 = .ok (.getfield 22, 3) := by decide +kernel
theorem dI_has_9 : decode bI_has 9 = .ok (.if_icmp .ge 7, 3) := by decide +kernel
theorem dI_has_12 : decode bI_has 12 = .ok (.iconst 1, 1) := by decide +kernel
theorem dI_has_13 : decode bI_has 13 = .ok (.goto 4, 3) := by decide +kernel
theorem dI_has_16 : decode bI_has 16 = .ok (.iconst 0, 1) := by decide +kernel
theorem dI_has_17 : decode bI_has 17 = .ok (.ireturn, 1) := by decide +kernel
theorem dI_kind_0 : decode bI_kind 0 = .ok (.aload_n 0, 1) := by decide +kernel
theorem dI_kind_1 : decode bI_kind 1 = .ok (.iload_n 1, 1) := by decide +kernel
theorem dI_kind_2 : decode bI_kind 2 = .ok (.invokevirtual 26, 3) := by decide +kernel
theorem dI_kind_5 : decode bI_kind 5 = .ok (.ifCond .eq 12, 3) := by decide +kernel
theorem dI_kind_8 : decode bI_kind 8 = .ok (.aload_n 0, 1) := by decide +kernel
theorem dI_kind_9 : decode bI_kind 9 = .ok (.getfield 9, 3) := by decide +kernel
theorem dI_kind_12 : decode bI_kind 12 = .ok (.iload_n 1, 1) := by decide +kernel
theorem dI_kind_13 : decode bI_kind 13 = .ok (.iaload, 1) := by decide +kernel
theorem dI_kind_14 : decode bI_kind 14 = .ok (.goto 4, 3) := by decide +kernel
theorem dI_kind_17 : decode bI_kind 17 = .ok (.iconst (-1), 1) := by decide +kernel
theorem dI_kind_18 : decode bI_kind 18 = .ok (.ireturn, 1) := by decide +kernel
theorem dI_add_0 : decode bI_add 0 = .ok (.aload_n 0, 1) := by decide +kernel
theorem dI_add_1 : decode bI_add 1 = .ok (.getfield 22, 3) := by decide +kernel
theorem dI_add_4 : decode bI_add 4 = .ok (.bipush 12, 2) := by decide +kernel
theorem dI_add_6 : decode bI_add 6 = .ok (.if_icmp .lt 5, 3) := by decide +kernel
theorem dI_add_9 : decode bI_add 9 = .ok (.iconst (-1), 1) := by decide +kernel
theorem dI_add_10 : decode bI_add 10 = .ok (.ireturn, 1) := by decide +kernel
theorem dI_add_11 : decode bI_add 11 = .ok (.aload_n 0, 1) := by decide +kernel
theorem dI_add_12 : decode bI_add 12 = .ok (.getfield 22, 3) := by decide +kernel
theorem dI_add_15 : decode bI_add 15 = .ok (.istore_n 2, 1) := by decide +kernel
theorem dI_add_16 : decode bI_add 16 = .ok (.aload_n 0, 1) := by decide +kernel
theorem dI_add_17 : decode bI_add 17 = .ok (.getfield 9, 3) := by decide +kernel
theorem dI_add_20 : decode bI_add 20 = .ok (.iload_n 2, 1) := by decide +kernel
theorem dI_add_21 : decode bI_add 21 = .ok (.iload_n 1, 1) := by decide +kernel
theorem dI_add_22 : decode bI_add 22 = .ok (.iastore, 1) := by decide +kernel
theorem dI_add_23 : decode bI_add 23 = .ok (.aload_n 0, 1) := by decide +kernel
theorem dI_add_24 : decode bI_add 24 = .ok (.dup, 1) := by decide +kernel
theorem dI_add_25 : decode bI_add 25 = .ok (.getfield 22, 3) := by decide +kernel
theorem dI_add_28 : decode bI_add 28 = .ok (.iconst 1, 1) := by decide +kernel
theorem dI_add_29 : decode bI_add 29 = .ok (.iadd, 1) := by decide +kernel
theorem dI_add_30 : decode bI_add 30 = .ok (.putfield 22, 3) := by decide +kernel
theorem dI_add_33 : decode bI_add 33 = .ok (.iconst 0, 1) := by decide +kernel
theorem dI_add_34 : decode bI_add 34 = .ok (.istore_n 3, 1) := by decide +kernel
theorem dI_add_35 : decode bI_add 35 = .ok (.iload_n 3, 1) := by decide +kernel
theorem dI_add_36 : decode bI_add 36 = .ok (.bipush 8, 2) := by decide +kernel
theorem dI_add_38 : decode bI_add 38 = .ok (.if_icmp .ge 23, 3) := by decide +kernel
theorem dI_add_41 : decode bI_add 41 = .ok (.aload_n 0, 1) := by decide +kernel
theorem dI_add_42 : decode bI_add 42 = .ok (.iload_n 2, 1) := by decide +kernel
theorem dI_add_43 : decode bI_add 43 = .ok (.iload_n 3, 1) := by decide +kernel
theorem dI_add_44 : decode bI_add 44 = .ok (.lconst 0, 1) := by decide +kernel
theorem dI_add_45 : decode bI_add 45 = .ok (.invokevirtual 30, 3) := by decide +kernel
theorem dI_add_48 : decode bI_add 48 = .ok (.aload_n 0, 1) := by decide +kernel
theorem dI_add_49 : decode bI_add 49 = .ok (.iload_n 2, 1) := by decide +kernel
theorem dI_add_50 : decode bI_add 50 = .ok (.iload_n 3, 1) := by decide +kernel
theorem dI_add_51 : decode bI_add 51 = .ok (.iconst (-1), 1) := by decide +kernel
theorem dI_add_52 : decode bI_add 52 = .ok (.invokevirtual 34, 3) := by decide +kernel
theorem dI_add_55 : decode bI_add 55 = .ok (.iinc 3 1, 3) := by decide +kernel
theorem dI_add_58 : decode bI_add 58 = .ok (.goto (-23), 3) := by decide +kernel
theorem dI_add_61 : decode bI_add 61 = .ok (.iload_n 2, 1) := by decide +kernel
theorem dI_add_62 : decode bI_add 62 = .ok (.ireturn, 1) := by decide +kernel
theorem dI_hasCell_0 : decode bI_hasCell 0 = .ok (.aload_n 0, 1) := by decide +kernel
theorem dI_hasCell_1 : decode bI_hasCell 1 = .ok (.iload_n 1, 1) := by decide +kernel
theorem dI_hasCell_2 : decode bI_hasCell 2 = .ok (.invokevirtual 26, 3) := by decide +kernel
theorem dI_hasCell_5 : decode bI_hasCell 5 = .ok (.ifCond .eq 17, 3) := by decide +kernel
theorem dI_hasCell_8 : decode bI_hasCell 8 = .ok (.iload_n 2, 1) := by decide +kernel
theorem dI_hasCell_9 : decode bI_hasCell 9 = .ok (.ifCond .lt 13, 3) := by decide +kernel
theorem dI_hasCell_12 : decode bI_hasCell 12 = .ok (.iload_n 2, 1) := by decide +kernel
theorem dI_hasCell_13 : decode bI_hasCell 13 = .ok (.bipush 8, 2) := by decide +kernel
theorem dI_hasCell_15 : decode bI_hasCell 15 = .ok (.if_icmp .ge 7, 3) := by decide +kernel
theorem dI_hasCell_18 : decode bI_hasCell 18 = .ok (.iconst 1, 1) := by decide +kernel
theorem dI_hasCell_19 : decode bI_hasCell 19 = .ok (.goto 4, 3) := by decide +kernel
theorem dI_hasCell_22 : decode bI_hasCell 22 = .ok (.iconst 0, 1) := by decide +kernel
theorem dI_hasCell_23 : decode bI_hasCell 23 = .ok (.ireturn, 1) := by decide +kernel
theorem dI_cell_0 : decode bI_cell 0 = .ok (.iload_n 1, 1) := by decide +kernel
theorem dI_cell_1 : decode bI_cell 1 = .ok (.bipush 8, 2) := by decide +kernel
theorem dI_cell_3 : decode bI_cell 3 = .ok (.imul, 1) := by decide +kernel
theorem dI_cell_4 : decode bI_cell 4 = .ok (.iload_n 2, 1) := by decide +kernel
theorem dI_cell_5 : decode bI_cell 5 = .ok (.iadd, 1) := by decide +kernel
theorem dI_cell_6 : decode bI_cell 6 = .ok (.ireturn, 1) := by decide +kernel
theorem dI_valueAt_0 : decode bI_valueAt 0 = .ok (.aload_n 0, 1) := by decide +kernel
theorem dI_valueAt_1 : decode bI_valueAt 1 = .ok (.iload_n 1, 1) := by decide +kernel
theorem dI_valueAt_2 : decode bI_valueAt 2 = .ok (.iload_n 2, 1) := by decide +kernel
theorem dI_valueAt_3 : decode bI_valueAt 3 = .ok (.invokevirtual 38, 3) := by decide +kernel
theorem dI_valueAt_6 : decode bI_valueAt 6 = .ok (.ifCond .eq 17, 3) := by decide +kernel
theorem dI_valueAt_9 : decode bI_valueAt 9 = .ok (.aload_n 0, 1) := by decide +kernel
theorem dI_valueAt_10 : decode bI_valueAt 10 = .ok (.getfield 15, 3) := by decide +kernel
theorem dI_valueAt_13 : decode bI_valueAt 13 = .ok (.aload_n 0, 1) := by decide +kernel
theorem dI_valueAt_14 : decode bI_valueAt 14 = .ok (.iload_n 1, 1) := by decide +kernel
theorem dI_valueAt_15 : decode bI_valueAt 15 = .ok (.iload_n 2, 1) := by decide +kernel
theorem dI_valueAt_16 : decode bI_valueAt 16 = .ok (.invokevirtual 42, 3) := by decide +kernel
theorem dI_valueAt_19 : decode bI_valueAt 19 = .ok (.laload, 1) := by decide +kernel
theorem dI_valueAt_20 : decode bI_valueAt 20 = .ok (.goto 4, 3) := by decide +kernel
theorem dI_valueAt_23 : decode bI_valueAt 23 = .ok (.lconst 0, 1) := by decide +kernel
theorem dI_valueAt_24 : decode bI_valueAt 24 = .ok (.lreturn, 1) := by decide +kernel
theorem dI_partnerAt_0 : decode bI_partnerAt 0 = .ok (.aload_n 0, 1) := by decide +kernel
theorem dI_partnerAt_1 : decode bI_partnerAt 1 = .ok (.iload_n 1, 1) := by decide +kernel
theorem dI_partnerAt_2 : decode bI_partnerAt 2 = .ok (.iload_n 2, 1) := by decide +kernel
theorem dI_partnerAt_3 : decode bI_partnerAt 3 = .ok (.invokevirtual 38, 3) := by decide +kernel
theorem dI_partnerAt_6 : decode bI_partnerAt 6 = .ok (.ifCond .eq 17, 3) := by decide +kernel
theorem dI_partnerAt_9 : decode bI_partnerAt 9 = .ok (.aload_n 0, 1) := by decide +kernel
theorem dI_partnerAt_10 : decode bI_partnerAt 10 = .ok (.getfield 19, 3) := by decide +kernel
theorem dI_partnerAt_13 : decode bI_partnerAt 13 = .ok (.aload_n 0, 1) := by decide +kernel
theorem dI_partnerAt_14 : decode bI_partnerAt 14 = .ok (.iload_n 1, 1) := by decide +kernel
theorem dI_partnerAt_15 : decode bI_partnerAt 15 = .ok (.iload_n 2, 1) := by decide +kernel
theorem dI_partnerAt_16 : decode bI_partnerAt 16 = .ok (.invokevirtual 42, 3) := by decide +kernel
theorem dI_partnerAt_19 : decode bI_partnerAt 19 = .ok (.iaload, 1) := by decide +kernel
theorem dI_partnerAt_20 : decode bI_partnerAt 20 = .ok (.goto 4, 3) := by decide +kernel
theorem dI_partnerAt_23 : decode bI_partnerAt 23 = .ok (.iconst (-1), 1) := by decide +kernel
theorem dI_partnerAt_24 : decode bI_partnerAt 24 = .ok (.ireturn, 1) := by decide +kernel
theorem dI_setValue_0 : decode bI_setValue 0 = .ok (.aload_n 0, 1) := by decide +kernel
theorem dI_setValue_1 : decode bI_setValue 1 = .ok (.iload_n 1, 1) := by decide +kernel
theorem dI_setValue_2 : decode bI_setValue 2 = .ok (.iload_n 2, 1) := by decide +kernel
theorem dI_setValue_3 : decode bI_setValue 3 = .ok (.invokevirtual 38, 3) := by decide +kernel
theorem dI_setValue_6 : decode bI_setValue 6 = .ok (.ifCond .eq 15, 3) := by decide +kernel
theorem dI_setValue_9 : decode bI_setValue 9 = .ok (.aload_n 0, 1) := by decide +kernel
theorem dI_setValue_10 : decode bI_setValue 10 = .ok (.getfield 15, 3) := by decide +kernel
theorem dI_setValue_13 : decode bI_setValue 13 = .ok (.aload_n 0, 1) := by decide +kernel
theorem dI_setValue_14 : decode bI_setValue 14 = .ok (.iload_n 1, 1) := by decide +kernel
theorem dI_setValue_15 : decode bI_setValue 15 = .ok (.iload_n 2, 1) := by decide +kernel
theorem dI_setValue_16 : decode bI_setValue 16 = .ok (.invokevirtual 42, 3) := by decide +kernel
theorem dI_setValue_19 : decode bI_setValue 19 = .ok (.lload_n 3, 1) := by decide +kernel
theorem dI_setValue_20 : decode bI_setValue 20 = .ok (.lastore, 1) := by decide +kernel
theorem dI_setValue_21 : decode bI_setValue 21 = .ok (.return_, 1) := by decide +kernel
end
section
/-! decode rows of the law: laid by wip/gen/names.py -/
theorem dL_0 : decode code 0 = .ok (.new 7, 3) := by decide +kernel
theorem dL_3 : decode code 3 = .ok (.dup, 1) := by decide +kernel
theorem dL_4 : decode code 4 = .ok (.invokespecial 9, 3) := by decide +kernel
theorem dL_7 : decode code 7 = .ok (.astore_n 1, 1) := by decide +kernel
theorem dL_8 : decode code 8 = .ok (.new 10, 3) := by decide +kernel
theorem dL_11 : decode code 11 = .ok (.dup, 1) := by decide +kernel
theorem dL_12 : decode code 12 = .ok (.invokespecial 12, 3) := by decide +kernel
theorem dL_15 : decode code 15 = .ok (.astore_n 2, 1) := by decide +kernel
theorem dL_16 : decode code 16 = .ok (.iconst 0, 1) := by decide +kernel
theorem dL_17 : decode code 17 = .ok (.istore_n 3, 1) := by decide +kernel
theorem dL_18 : decode code 18 = .ok (.iload_n 3, 1) := by decide +kernel
theorem dL_19 : decode code 19 = .ok (.aload_n 0, 1) := by decide +kernel
theorem dL_20 : decode code 20 = .ok (.arraylength, 1) := by decide +kernel
theorem dL_21 : decode code 21 = .ok (.iconst 5, 1) := by decide +kernel
theorem dL_22 : decode code 22 = .ok (.isub, 1) := by decide +kernel
theorem dL_23 : decode code 23 = .ok (.if_icmp .gt 623, 3) := by decide +kernel
theorem dL_26 : decode code 26 = .ok (.aload_n 0, 1) := by decide +kernel
theorem dL_27 : decode code 27 = .ok (.iload_n 3, 1) := by decide +kernel
theorem dL_28 : decode code 28 = .ok (.iaload, 1) := by decide +kernel
theorem dL_29 : decode code 29 = .ok (.bipush 31, 2) := by decide +kernel
theorem dL_31 : decode code 31 = .ok (.iand, 1) := by decide +kernel
theorem dL_32 : decode code 32 = .ok (.tableswitch 608 0 18 #[92, 115, 168, 191, 264, 307, 341, 374, 397, 410, 421, 454, 477, 490, 503, 516, 529, 552, 585], 92) := by decide +kernel
theorem dL_124 : decode code 124 = .ok (.aload_n 1, 1) := by decide +kernel
theorem dL_125 : decode code 125 = .ok (.aload_n 0, 1) := by decide +kernel
theorem dL_126 : decode code 126 = .ok (.iload_n 3, 1) := by decide +kernel
theorem dL_127 : decode code 127 = .ok (.iconst 1, 1) := by decide +kernel
theorem dL_128 : decode code 128 = .ok (.iadd, 1) := by decide +kernel
theorem dL_129 : decode code 129 = .ok (.iaload, 1) := by decide +kernel
theorem dL_130 : decode code 130 = .ok (.invokevirtual 13, 3) := by decide +kernel
theorem dL_133 : decode code 133 = .ok (.aload_n 2, 1) := by decide +kernel
theorem dL_134 : decode code 134 = .ok (.aload_n 0, 1) := by decide +kernel
theorem dL_135 : decode code 135 = .ok (.iload_n 3, 1) := by decide +kernel
theorem dL_136 : decode code 136 = .ok (.iconst 1, 1) := by decide +kernel
theorem dL_137 : decode code 137 = .ok (.iadd, 1) := by decide +kernel
theorem dL_138 : decode code 138 = .ok (.iaload, 1) := by decide +kernel
theorem dL_139 : decode code 139 = .ok (.invokevirtual 17, 3) := by decide +kernel
theorem dL_142 : decode code 142 = .ok (.if_icmp .eq 498, 3) := by decide +kernel
theorem dL_145 : decode code 145 = .ok (.iconst 0, 1) := by decide +kernel
theorem dL_146 : decode code 146 = .ok (.ireturn, 1) := by decide +kernel
theorem dL_147 : decode code 147 = .ok (.aload_n 1, 1) := by decide +kernel
theorem dL_148 : decode code 148 = .ok (.aload_n 0, 1) := by decide +kernel
theorem dL_149 : decode code 149 = .ok (.iload_n 3, 1) := by decide +kernel
theorem dL_150 : decode code 150 = .ok (.iconst 1, 1) := by decide +kernel
theorem dL_151 : decode code 151 = .ok (.iadd, 1) := by decide +kernel
theorem dL_152 : decode code 152 = .ok (.iaload, 1) := by decide +kernel
theorem dL_153 : decode code 153 = .ok (.aload_n 0, 1) := by decide +kernel
theorem dL_154 : decode code 154 = .ok (.iload_n 3, 1) := by decide +kernel
theorem dL_155 : decode code 155 = .ok (.iconst 2, 1) := by decide +kernel
theorem dL_156 : decode code 156 = .ok (.iadd, 1) := by decide +kernel
theorem dL_157 : decode code 157 = .ok (.iaload, 1) := by decide +kernel
theorem dL_158 : decode code 158 = .ok (.aload_n 0, 1) := by decide +kernel
theorem dL_159 : decode code 159 = .ok (.iload_n 3, 1) := by decide +kernel
theorem dL_160 : decode code 160 = .ok (.iconst 3, 1) := by decide +kernel
theorem dL_161 : decode code 161 = .ok (.iadd, 1) := by decide +kernel
theorem dL_162 : decode code 162 = .ok (.iaload, 1) := by decide +kernel
theorem dL_163 : decode code 163 = .ok (.aload_n 0, 1) := by decide +kernel
theorem dL_164 : decode code 164 = .ok (.iload_n 3, 1) := by decide +kernel
theorem dL_165 : decode code 165 = .ok (.iconst 4, 1) := by decide +kernel
theorem dL_166 : decode code 166 = .ok (.iadd, 1) := by decide +kernel
theorem dL_167 : decode code 167 = .ok (.iaload, 1) := by decide +kernel
theorem dL_168 : decode code 168 = .ok (.invokevirtual 18, 3) := by decide +kernel
theorem dL_171 : decode code 171 = .ok (.aload_n 2, 1) := by decide +kernel
theorem dL_172 : decode code 172 = .ok (.aload_n 0, 1) := by decide +kernel
theorem dL_173 : decode code 173 = .ok (.iload_n 3, 1) := by decide +kernel
theorem dL_174 : decode code 174 = .ok (.iconst 1, 1) := by decide +kernel
theorem dL_175 : decode code 175 = .ok (.iadd, 1) := by decide +kernel
theorem dL_176 : decode code 176 = .ok (.iaload, 1) := by decide +kernel
theorem dL_177 : decode code 177 = .ok (.aload_n 0, 1) := by decide +kernel
theorem dL_178 : decode code 178 = .ok (.iload_n 3, 1) := by decide +kernel
theorem dL_179 : decode code 179 = .ok (.iconst 2, 1) := by decide +kernel
theorem dL_180 : decode code 180 = .ok (.iadd, 1) := by decide +kernel
theorem dL_181 : decode code 181 = .ok (.iaload, 1) := by decide +kernel
theorem dL_182 : decode code 182 = .ok (.aload_n 0, 1) := by decide +kernel
theorem dL_183 : decode code 183 = .ok (.iload_n 3, 1) := by decide +kernel
theorem dL_184 : decode code 184 = .ok (.iconst 3, 1) := by decide +kernel
theorem dL_185 : decode code 185 = .ok (.iadd, 1) := by decide +kernel
theorem dL_186 : decode code 186 = .ok (.iaload, 1) := by decide +kernel
theorem dL_187 : decode code 187 = .ok (.aload_n 0, 1) := by decide +kernel
theorem dL_188 : decode code 188 = .ok (.iload_n 3, 1) := by decide +kernel
theorem dL_189 : decode code 189 = .ok (.iconst 4, 1) := by decide +kernel
theorem dL_190 : decode code 190 = .ok (.iadd, 1) := by decide +kernel
theorem dL_191 : decode code 191 = .ok (.iaload, 1) := by decide +kernel
theorem dL_192 : decode code 192 = .ok (.invokevirtual 22, 3) := by decide +kernel
theorem dL_195 : decode code 195 = .ok (.if_icmp .eq 445, 3) := by decide +kernel
theorem dL_198 : decode code 198 = .ok (.iconst 0, 1) := by decide +kernel
theorem dL_199 : decode code 199 = .ok (.ireturn, 1) := by decide +kernel
theorem dL_200 : decode code 200 = .ok (.aload_n 1, 1) := by decide +kernel
theorem dL_201 : decode code 201 = .ok (.aload_n 0, 1) := by decide +kernel
theorem dL_202 : decode code 202 = .ok (.iload_n 3, 1) := by decide +kernel
theorem dL_203 : decode code 203 = .ok (.iconst 1, 1) := by decide +kernel
theorem dL_204 : decode code 204 = .ok (.iadd, 1) := by decide +kernel
theorem dL_205 : decode code 205 = .ok (.iaload, 1) := by decide +kernel
theorem dL_206 : decode code 206 = .ok (.invokevirtual 23, 3) := by decide +kernel
theorem dL_209 : decode code 209 = .ok (.aload_n 2, 1) := by decide +kernel
theorem dL_210 : decode code 210 = .ok (.aload_n 0, 1) := by decide +kernel
theorem dL_211 : decode code 211 = .ok (.iload_n 3, 1) := by decide +kernel
theorem dL_212 : decode code 212 = .ok (.iconst 1, 1) := by decide +kernel
theorem dL_213 : decode code 213 = .ok (.iadd, 1) := by decide +kernel
theorem dL_214 : decode code 214 = .ok (.iaload, 1) := by decide +kernel
theorem dL_215 : decode code 215 = .ok (.invokevirtual 26, 3) := by decide +kernel
theorem dL_218 : decode code 218 = .ok (.if_icmp .eq 422, 3) := by decide +kernel
theorem dL_221 : decode code 221 = .ok (.iconst 0, 1) := by decide +kernel
theorem dL_222 : decode code 222 = .ok (.ireturn, 1) := by decide +kernel
theorem dL_223 : decode code 223 = .ok (.aload_n 1, 1) := by decide +kernel
theorem dL_224 : decode code 224 = .ok (.aload_n 0, 1) := by decide +kernel
theorem dL_225 : decode code 225 = .ok (.iload_n 3, 1) := by decide +kernel
theorem dL_226 : decode code 226 = .ok (.iconst 1, 1) := by decide +kernel
theorem dL_227 : decode code 227 = .ok (.iadd, 1) := by decide +kernel
theorem dL_228 : decode code 228 = .ok (.iaload, 1) := by decide +kernel
theorem dL_229 : decode code 229 = .ok (.aload_n 0, 1) := by decide +kernel
theorem dL_230 : decode code 230 = .ok (.iload_n 3, 1) := by decide +kernel
theorem dL_231 : decode code 231 = .ok (.iconst 2, 1) := by decide +kernel
theorem dL_232 : decode code 232 = .ok (.iadd, 1) := by decide +kernel
theorem dL_233 : decode code 233 = .ok (.iaload, 1) := by decide +kernel
theorem dL_234 : decode code 234 = .ok (.aload_n 0, 1) := by decide +kernel
theorem dL_235 : decode code 235 = .ok (.iload_n 3, 1) := by decide +kernel
theorem dL_236 : decode code 236 = .ok (.iconst 3, 1) := by decide +kernel
theorem dL_237 : decode code 237 = .ok (.iadd, 1) := by decide +kernel
theorem dL_238 : decode code 238 = .ok (.iaload, 1) := by decide +kernel
theorem dL_239 : decode code 239 = .ok (.i2l, 1) := by decide +kernel
theorem dL_240 : decode code 240 = .ok (.bipush 32, 2) := by decide +kernel
theorem dL_242 : decode code 242 = .ok (.lshl, 1) := by decide +kernel
theorem dL_243 : decode code 243 = .ok (.aload_n 0, 1) := by decide +kernel
theorem dL_244 : decode code 244 = .ok (.iload_n 3, 1) := by decide +kernel
theorem dL_245 : decode code 245 = .ok (.iconst 4, 1) := by decide +kernel
theorem dL_246 : decode code 246 = .ok (.iadd, 1) := by decide +kernel
theorem dL_247 : decode code 247 = .ok (.iaload, 1) := by decide +kernel
theorem dL_248 : decode code 248 = .ok (.i2l, 1) := by decide +kernel
theorem dL_249 : decode code 249 = .ok (.ldc2_w 27, 3) := by decide +kernel
theorem dL_252 : decode code 252 = .ok (.land, 1) := by decide +kernel
theorem dL_253 : decode code 253 = .ok (.lor, 1) := by decide +kernel
theorem dL_254 : decode code 254 = .ok (.invokevirtual 29, 3) := by decide +kernel
theorem dL_257 : decode code 257 = .ok (.aload_n 2, 1) := by decide +kernel
theorem dL_258 : decode code 258 = .ok (.aload_n 0, 1) := by decide +kernel
theorem dL_259 : decode code 259 = .ok (.iload_n 3, 1) := by decide +kernel
theorem dL_260 : decode code 260 = .ok (.iconst 1, 1) := by decide +kernel
theorem dL_261 : decode code 261 = .ok (.iadd, 1) := by decide +kernel
theorem dL_262 : decode code 262 = .ok (.iaload, 1) := by decide +kernel
theorem dL_263 : decode code 263 = .ok (.aload_n 0, 1) := by decide +kernel
theorem dL_264 : decode code 264 = .ok (.iload_n 3, 1) := by decide +kernel
theorem dL_265 : decode code 265 = .ok (.iconst 2, 1) := by decide +kernel
theorem dL_266 : decode code 266 = .ok (.iadd, 1) := by decide +kernel
theorem dL_267 : decode code 267 = .ok (.iaload, 1) := by decide +kernel
theorem dL_268 : decode code 268 = .ok (.aload_n 0, 1) := by decide +kernel
theorem dL_269 : decode code 269 = .ok (.iload_n 3, 1) := by decide +kernel
theorem dL_270 : decode code 270 = .ok (.iconst 3, 1) := by decide +kernel
theorem dL_271 : decode code 271 = .ok (.iadd, 1) := by decide +kernel
theorem dL_272 : decode code 272 = .ok (.iaload, 1) := by decide +kernel
theorem dL_273 : decode code 273 = .ok (.i2l, 1) := by decide +kernel
theorem dL_274 : decode code 274 = .ok (.bipush 32, 2) := by decide +kernel
theorem dL_276 : decode code 276 = .ok (.lshl, 1) := by decide +kernel
theorem dL_277 : decode code 277 = .ok (.aload_n 0, 1) := by decide +kernel
theorem dL_278 : decode code 278 = .ok (.iload_n 3, 1) := by decide +kernel
theorem dL_279 : decode code 279 = .ok (.iconst 4, 1) := by decide +kernel
theorem dL_280 : decode code 280 = .ok (.iadd, 1) := by decide +kernel
theorem dL_281 : decode code 281 = .ok (.iaload, 1) := by decide +kernel
theorem dL_282 : decode code 282 = .ok (.i2l, 1) := by decide +kernel
theorem dL_283 : decode code 283 = .ok (.ldc2_w 27, 3) := by decide +kernel
theorem dL_286 : decode code 286 = .ok (.land, 1) := by decide +kernel
theorem dL_287 : decode code 287 = .ok (.lor, 1) := by decide +kernel
theorem dL_288 : decode code 288 = .ok (.invokevirtual 33, 3) := by decide +kernel
theorem dL_291 : decode code 291 = .ok (.if_icmp .eq 349, 3) := by decide +kernel
theorem dL_294 : decode code 294 = .ok (.iconst 0, 1) := by decide +kernel
theorem dL_295 : decode code 295 = .ok (.ireturn, 1) := by decide +kernel
theorem dL_296 : decode code 296 = .ok (.aload_n 1, 1) := by decide +kernel
theorem dL_297 : decode code 297 = .ok (.aload_n 0, 1) := by decide +kernel
theorem dL_298 : decode code 298 = .ok (.iload_n 3, 1) := by decide +kernel
theorem dL_299 : decode code 299 = .ok (.iconst 1, 1) := by decide +kernel
theorem dL_300 : decode code 300 = .ok (.iadd, 1) := by decide +kernel
theorem dL_301 : decode code 301 = .ok (.iaload, 1) := by decide +kernel
theorem dL_302 : decode code 302 = .ok (.aload_n 0, 1) := by decide +kernel
theorem dL_303 : decode code 303 = .ok (.iload_n 3, 1) := by decide +kernel
theorem dL_304 : decode code 304 = .ok (.iconst 2, 1) := by decide +kernel
theorem dL_305 : decode code 305 = .ok (.iadd, 1) := by decide +kernel
theorem dL_306 : decode code 306 = .ok (.iaload, 1) := by decide +kernel
theorem dL_307 : decode code 307 = .ok (.aload_n 0, 1) := by decide +kernel
theorem dL_308 : decode code 308 = .ok (.iload_n 3, 1) := by decide +kernel
theorem dL_309 : decode code 309 = .ok (.iconst 3, 1) := by decide +kernel
theorem dL_310 : decode code 310 = .ok (.iadd, 1) := by decide +kernel
theorem dL_311 : decode code 311 = .ok (.iaload, 1) := by decide +kernel
theorem dL_312 : decode code 312 = .ok (.invokevirtual 34, 3) := by decide +kernel
theorem dL_315 : decode code 315 = .ok (.aload_n 2, 1) := by decide +kernel
theorem dL_316 : decode code 316 = .ok (.aload_n 0, 1) := by decide +kernel
theorem dL_317 : decode code 317 = .ok (.iload_n 3, 1) := by decide +kernel
theorem dL_318 : decode code 318 = .ok (.iconst 1, 1) := by decide +kernel
theorem dL_319 : decode code 319 = .ok (.iadd, 1) := by decide +kernel
theorem dL_320 : decode code 320 = .ok (.iaload, 1) := by decide +kernel
theorem dL_321 : decode code 321 = .ok (.aload_n 0, 1) := by decide +kernel
theorem dL_322 : decode code 322 = .ok (.iload_n 3, 1) := by decide +kernel
theorem dL_323 : decode code 323 = .ok (.iconst 2, 1) := by decide +kernel
theorem dL_324 : decode code 324 = .ok (.iadd, 1) := by decide +kernel
theorem dL_325 : decode code 325 = .ok (.iaload, 1) := by decide +kernel
theorem dL_326 : decode code 326 = .ok (.aload_n 0, 1) := by decide +kernel
theorem dL_327 : decode code 327 = .ok (.iload_n 3, 1) := by decide +kernel
theorem dL_328 : decode code 328 = .ok (.iconst 3, 1) := by decide +kernel
theorem dL_329 : decode code 329 = .ok (.iadd, 1) := by decide +kernel
theorem dL_330 : decode code 330 = .ok (.iaload, 1) := by decide +kernel
theorem dL_331 : decode code 331 = .ok (.invokevirtual 38, 3) := by decide +kernel
theorem dL_334 : decode code 334 = .ok (.if_icmp .eq 306, 3) := by decide +kernel
theorem dL_337 : decode code 337 = .ok (.iconst 0, 1) := by decide +kernel
theorem dL_338 : decode code 338 = .ok (.ireturn, 1) := by decide +kernel
theorem dL_339 : decode code 339 = .ok (.aload_n 1, 1) := by decide +kernel
theorem dL_340 : decode code 340 = .ok (.aload_n 0, 1) := by decide +kernel
theorem dL_341 : decode code 341 = .ok (.iload_n 3, 1) := by decide +kernel
theorem dL_342 : decode code 342 = .ok (.iconst 1, 1) := by decide +kernel
theorem dL_343 : decode code 343 = .ok (.iadd, 1) := by decide +kernel
theorem dL_344 : decode code 344 = .ok (.iaload, 1) := by decide +kernel
theorem dL_345 : decode code 345 = .ok (.aload_n 0, 1) := by decide +kernel
theorem dL_346 : decode code 346 = .ok (.iload_n 3, 1) := by decide +kernel
theorem dL_347 : decode code 347 = .ok (.iconst 2, 1) := by decide +kernel
theorem dL_348 : decode code 348 = .ok (.iadd, 1) := by decide +kernel
theorem dL_349 : decode code 349 = .ok (.iaload, 1) := by decide +kernel
theorem dL_350 : decode code 350 = .ok (.invokevirtual 39, 3) := by decide +kernel
theorem dL_353 : decode code 353 = .ok (.aload_n 2, 1) := by decide +kernel
theorem dL_354 : decode code 354 = .ok (.aload_n 0, 1) := by decide +kernel
theorem dL_355 : decode code 355 = .ok (.iload_n 3, 1) := by decide +kernel
theorem dL_356 : decode code 356 = .ok (.iconst 1, 1) := by decide +kernel
theorem dL_357 : decode code 357 = .ok (.iadd, 1) := by decide +kernel
theorem dL_358 : decode code 358 = .ok (.iaload, 1) := by decide +kernel
theorem dL_359 : decode code 359 = .ok (.aload_n 0, 1) := by decide +kernel
theorem dL_360 : decode code 360 = .ok (.iload_n 3, 1) := by decide +kernel
theorem dL_361 : decode code 361 = .ok (.iconst 2, 1) := by decide +kernel
theorem dL_362 : decode code 362 = .ok (.iadd, 1) := by decide +kernel
theorem dL_363 : decode code 363 = .ok (.iaload, 1) := by decide +kernel
theorem dL_364 : decode code 364 = .ok (.invokevirtual 43, 3) := by decide +kernel
theorem dL_367 : decode code 367 = .ok (.lcmp, 1) := by decide +kernel
theorem dL_368 : decode code 368 = .ok (.ifCond .eq 272, 3) := by decide +kernel
theorem dL_371 : decode code 371 = .ok (.iconst 0, 1) := by decide +kernel
theorem dL_372 : decode code 372 = .ok (.ireturn, 1) := by decide +kernel
theorem dL_373 : decode code 373 = .ok (.aload_n 1, 1) := by decide +kernel
theorem dL_374 : decode code 374 = .ok (.aload_n 0, 1) := by decide +kernel
theorem dL_375 : decode code 375 = .ok (.iload_n 3, 1) := by decide +kernel
theorem dL_376 : decode code 376 = .ok (.iconst 1, 1) := by decide +kernel
theorem dL_377 : decode code 377 = .ok (.iadd, 1) := by decide +kernel
theorem dL_378 : decode code 378 = .ok (.iaload, 1) := by decide +kernel
theorem dL_379 : decode code 379 = .ok (.aload_n 0, 1) := by decide +kernel
theorem dL_380 : decode code 380 = .ok (.iload_n 3, 1) := by decide +kernel
theorem dL_381 : decode code 381 = .ok (.iconst 2, 1) := by decide +kernel
theorem dL_382 : decode code 382 = .ok (.iadd, 1) := by decide +kernel
theorem dL_383 : decode code 383 = .ok (.iaload, 1) := by decide +kernel
theorem dL_384 : decode code 384 = .ok (.invokevirtual 44, 3) := by decide +kernel
theorem dL_387 : decode code 387 = .ok (.aload_n 2, 1) := by decide +kernel
theorem dL_388 : decode code 388 = .ok (.aload_n 0, 1) := by decide +kernel
theorem dL_389 : decode code 389 = .ok (.iload_n 3, 1) := by decide +kernel
theorem dL_390 : decode code 390 = .ok (.iconst 1, 1) := by decide +kernel
theorem dL_391 : decode code 391 = .ok (.iadd, 1) := by decide +kernel
theorem dL_392 : decode code 392 = .ok (.iaload, 1) := by decide +kernel
theorem dL_393 : decode code 393 = .ok (.aload_n 0, 1) := by decide +kernel
theorem dL_394 : decode code 394 = .ok (.iload_n 3, 1) := by decide +kernel
theorem dL_395 : decode code 395 = .ok (.iconst 2, 1) := by decide +kernel
theorem dL_396 : decode code 396 = .ok (.iadd, 1) := by decide +kernel
theorem dL_397 : decode code 397 = .ok (.iaload, 1) := by decide +kernel
theorem dL_398 : decode code 398 = .ok (.invokevirtual 48, 3) := by decide +kernel
theorem dL_401 : decode code 401 = .ok (.if_icmp .eq 239, 3) := by decide +kernel
theorem dL_404 : decode code 404 = .ok (.iconst 0, 1) := by decide +kernel
theorem dL_405 : decode code 405 = .ok (.ireturn, 1) := by decide +kernel
theorem dL_406 : decode code 406 = .ok (.aload_n 1, 1) := by decide +kernel
theorem dL_407 : decode code 407 = .ok (.aload_n 0, 1) := by decide +kernel
theorem dL_408 : decode code 408 = .ok (.iload_n 3, 1) := by decide +kernel
theorem dL_409 : decode code 409 = .ok (.iconst 1, 1) := by decide +kernel
theorem dL_410 : decode code 410 = .ok (.iadd, 1) := by decide +kernel
theorem dL_411 : decode code 411 = .ok (.iaload, 1) := by decide +kernel
theorem dL_412 : decode code 412 = .ok (.invokevirtual 49, 3) := by decide +kernel
theorem dL_415 : decode code 415 = .ok (.aload_n 2, 1) := by decide +kernel
theorem dL_416 : decode code 416 = .ok (.aload_n 0, 1) := by decide +kernel
theorem dL_417 : decode code 417 = .ok (.iload_n 3, 1) := by decide +kernel
theorem dL_418 : decode code 418 = .ok (.iconst 1, 1) := by decide +kernel
theorem dL_419 : decode code 419 = .ok (.iadd, 1) := by decide +kernel
theorem dL_420 : decode code 420 = .ok (.iaload, 1) := by decide +kernel
theorem dL_421 : decode code 421 = .ok (.invokevirtual 52, 3) := by decide +kernel
theorem dL_424 : decode code 424 = .ok (.if_icmp .eq 216, 3) := by decide +kernel
theorem dL_427 : decode code 427 = .ok (.iconst 0, 1) := by decide +kernel
theorem dL_428 : decode code 428 = .ok (.ireturn, 1) := by decide +kernel
theorem dL_429 : decode code 429 = .ok (.aload_n 1, 1) := by decide +kernel
theorem dL_430 : decode code 430 = .ok (.invokevirtual 53, 3) := by decide +kernel
theorem dL_433 : decode code 433 = .ok (.aload_n 2, 1) := by decide +kernel
theorem dL_434 : decode code 434 = .ok (.invokevirtual 57, 3) := by decide +kernel
theorem dL_437 : decode code 437 = .ok (.if_icmp .eq 203, 3) := by decide +kernel
theorem dL_440 : decode code 440 = .ok (.iconst 0, 1) := by decide +kernel
theorem dL_441 : decode code 441 = .ok (.ireturn, 1) := by decide +kernel
theorem dL_442 : decode code 442 = .ok (.aload_n 1, 1) := by decide +kernel
theorem dL_443 : decode code 443 = .ok (.invokevirtual 58, 3) := by decide +kernel
theorem dL_446 : decode code 446 = .ok (.aload_n 2, 1) := by decide +kernel
theorem dL_447 : decode code 447 = .ok (.invokevirtual 61, 3) := by decide +kernel
theorem dL_450 : decode code 450 = .ok (.goto 190, 3) := by decide +kernel
theorem dL_453 : decode code 453 = .ok (.aload_n 1, 1) := by decide +kernel
theorem dL_454 : decode code 454 = .ok (.aload_n 0, 1) := by decide +kernel
theorem dL_455 : decode code 455 = .ok (.iload_n 3, 1) := by decide +kernel
theorem dL_456 : decode code 456 = .ok (.iconst 1, 1) := by decide +kernel
theorem dL_457 : decode code 457 = .ok (.iadd, 1) := by decide +kernel
theorem dL_458 : decode code 458 = .ok (.iaload, 1) := by decide +kernel
theorem dL_459 : decode code 459 = .ok (.aload_n 0, 1) := by decide +kernel
theorem dL_460 : decode code 460 = .ok (.iload_n 3, 1) := by decide +kernel
theorem dL_461 : decode code 461 = .ok (.iconst 2, 1) := by decide +kernel
theorem dL_462 : decode code 462 = .ok (.iadd, 1) := by decide +kernel
theorem dL_463 : decode code 463 = .ok (.iaload, 1) := by decide +kernel
theorem dL_464 : decode code 464 = .ok (.invokevirtual 62, 3) := by decide +kernel
theorem dL_467 : decode code 467 = .ok (.aload_n 2, 1) := by decide +kernel
theorem dL_468 : decode code 468 = .ok (.aload_n 0, 1) := by decide +kernel
theorem dL_469 : decode code 469 = .ok (.iload_n 3, 1) := by decide +kernel
theorem dL_470 : decode code 470 = .ok (.iconst 1, 1) := by decide +kernel
theorem dL_471 : decode code 471 = .ok (.iadd, 1) := by decide +kernel
theorem dL_472 : decode code 472 = .ok (.iaload, 1) := by decide +kernel
theorem dL_473 : decode code 473 = .ok (.aload_n 0, 1) := by decide +kernel
theorem dL_474 : decode code 474 = .ok (.iload_n 3, 1) := by decide +kernel
theorem dL_475 : decode code 475 = .ok (.iconst 2, 1) := by decide +kernel
theorem dL_476 : decode code 476 = .ok (.iadd, 1) := by decide +kernel
theorem dL_477 : decode code 477 = .ok (.iaload, 1) := by decide +kernel
theorem dL_478 : decode code 478 = .ok (.invokevirtual 65, 3) := by decide +kernel
theorem dL_481 : decode code 481 = .ok (.if_icmp .eq 159, 3) := by decide +kernel
theorem dL_484 : decode code 484 = .ok (.iconst 0, 1) := by decide +kernel
theorem dL_485 : decode code 485 = .ok (.ireturn, 1) := by decide +kernel
theorem dL_486 : decode code 486 = .ok (.aload_n 1, 1) := by decide +kernel
theorem dL_487 : decode code 487 = .ok (.aload_n 0, 1) := by decide +kernel
theorem dL_488 : decode code 488 = .ok (.iload_n 3, 1) := by decide +kernel
theorem dL_489 : decode code 489 = .ok (.iconst 1, 1) := by decide +kernel
theorem dL_490 : decode code 490 = .ok (.iadd, 1) := by decide +kernel
theorem dL_491 : decode code 491 = .ok (.iaload, 1) := by decide +kernel
theorem dL_492 : decode code 492 = .ok (.invokevirtual 66, 3) := by decide +kernel
theorem dL_495 : decode code 495 = .ok (.aload_n 2, 1) := by decide +kernel
theorem dL_496 : decode code 496 = .ok (.aload_n 0, 1) := by decide +kernel
theorem dL_497 : decode code 497 = .ok (.iload_n 3, 1) := by decide +kernel
theorem dL_498 : decode code 498 = .ok (.iconst 1, 1) := by decide +kernel
theorem dL_499 : decode code 499 = .ok (.iadd, 1) := by decide +kernel
theorem dL_500 : decode code 500 = .ok (.iaload, 1) := by decide +kernel
theorem dL_501 : decode code 501 = .ok (.invokevirtual 69, 3) := by decide +kernel
theorem dL_504 : decode code 504 = .ok (.if_icmp .eq 136, 3) := by decide +kernel
theorem dL_507 : decode code 507 = .ok (.iconst 0, 1) := by decide +kernel
theorem dL_508 : decode code 508 = .ok (.ireturn, 1) := by decide +kernel
theorem dL_509 : decode code 509 = .ok (.aload_n 1, 1) := by decide +kernel
theorem dL_510 : decode code 510 = .ok (.invokevirtual 70, 3) := by decide +kernel
theorem dL_513 : decode code 513 = .ok (.aload_n 2, 1) := by decide +kernel
theorem dL_514 : decode code 514 = .ok (.invokevirtual 74, 3) := by decide +kernel
theorem dL_517 : decode code 517 = .ok (.if_icmp .eq 123, 3) := by decide +kernel
theorem dL_520 : decode code 520 = .ok (.iconst 0, 1) := by decide +kernel
theorem dL_521 : decode code 521 = .ok (.ireturn, 1) := by decide +kernel
theorem dL_522 : decode code 522 = .ok (.aload_n 1, 1) := by decide +kernel
theorem dL_523 : decode code 523 = .ok (.invokevirtual 75, 3) := by decide +kernel
theorem dL_526 : decode code 526 = .ok (.aload_n 2, 1) := by decide +kernel
theorem dL_527 : decode code 527 = .ok (.invokevirtual 78, 3) := by decide +kernel
theorem dL_530 : decode code 530 = .ok (.if_icmp .eq 110, 3) := by decide +kernel
theorem dL_533 : decode code 533 = .ok (.iconst 0, 1) := by decide +kernel
theorem dL_534 : decode code 534 = .ok (.ireturn, 1) := by decide +kernel
theorem dL_535 : decode code 535 = .ok (.aload_n 1, 1) := by decide +kernel
theorem dL_536 : decode code 536 = .ok (.invokevirtual 79, 3) := by decide +kernel
theorem dL_539 : decode code 539 = .ok (.aload_n 2, 1) := by decide +kernel
theorem dL_540 : decode code 540 = .ok (.invokevirtual 82, 3) := by decide +kernel
theorem dL_543 : decode code 543 = .ok (.if_icmp .eq 97, 3) := by decide +kernel
theorem dL_546 : decode code 546 = .ok (.iconst 0, 1) := by decide +kernel
theorem dL_547 : decode code 547 = .ok (.ireturn, 1) := by decide +kernel
theorem dL_548 : decode code 548 = .ok (.aload_n 1, 1) := by decide +kernel
theorem dL_549 : decode code 549 = .ok (.invokevirtual 83, 3) := by decide +kernel
theorem dL_552 : decode code 552 = .ok (.aload_n 2, 1) := by decide +kernel
theorem dL_553 : decode code 553 = .ok (.invokevirtual 86, 3) := by decide +kernel
theorem dL_556 : decode code 556 = .ok (.if_icmp .eq 84, 3) := by decide +kernel
theorem dL_559 : decode code 559 = .ok (.iconst 0, 1) := by decide +kernel
theorem dL_560 : decode code 560 = .ok (.ireturn, 1) := by decide +kernel
theorem dL_561 : decode code 561 = .ok (.aload_n 1, 1) := by decide +kernel
theorem dL_562 : decode code 562 = .ok (.aload_n 0, 1) := by decide +kernel
theorem dL_563 : decode code 563 = .ok (.iload_n 3, 1) := by decide +kernel
theorem dL_564 : decode code 564 = .ok (.iconst 1, 1) := by decide +kernel
theorem dL_565 : decode code 565 = .ok (.iadd, 1) := by decide +kernel
theorem dL_566 : decode code 566 = .ok (.iaload, 1) := by decide +kernel
theorem dL_567 : decode code 567 = .ok (.invokevirtual 87, 3) := by decide +kernel
theorem dL_570 : decode code 570 = .ok (.aload_n 2, 1) := by decide +kernel
theorem dL_571 : decode code 571 = .ok (.aload_n 0, 1) := by decide +kernel
theorem dL_572 : decode code 572 = .ok (.iload_n 3, 1) := by decide +kernel
theorem dL_573 : decode code 573 = .ok (.iconst 1, 1) := by decide +kernel
theorem dL_574 : decode code 574 = .ok (.iadd, 1) := by decide +kernel
theorem dL_575 : decode code 575 = .ok (.iaload, 1) := by decide +kernel
theorem dL_576 : decode code 576 = .ok (.invokevirtual 90, 3) := by decide +kernel
theorem dL_579 : decode code 579 = .ok (.if_icmp .eq 61, 3) := by decide +kernel
theorem dL_582 : decode code 582 = .ok (.iconst 0, 1) := by decide +kernel
theorem dL_583 : decode code 583 = .ok (.ireturn, 1) := by decide +kernel
theorem dL_584 : decode code 584 = .ok (.aload_n 1, 1) := by decide +kernel
theorem dL_585 : decode code 585 = .ok (.aload_n 0, 1) := by decide +kernel
theorem dL_586 : decode code 586 = .ok (.iload_n 3, 1) := by decide +kernel
theorem dL_587 : decode code 587 = .ok (.iconst 1, 1) := by decide +kernel
theorem dL_588 : decode code 588 = .ok (.iadd, 1) := by decide +kernel
theorem dL_589 : decode code 589 = .ok (.iaload, 1) := by decide +kernel
theorem dL_590 : decode code 590 = .ok (.aload_n 0, 1) := by decide +kernel
theorem dL_591 : decode code 591 = .ok (.iload_n 3, 1) := by decide +kernel
theorem dL_592 : decode code 592 = .ok (.iconst 2, 1) := by decide +kernel
theorem dL_593 : decode code 593 = .ok (.iadd, 1) := by decide +kernel
theorem dL_594 : decode code 594 = .ok (.iaload, 1) := by decide +kernel
theorem dL_595 : decode code 595 = .ok (.invokevirtual 91, 3) := by decide +kernel
theorem dL_598 : decode code 598 = .ok (.aload_n 2, 1) := by decide +kernel
theorem dL_599 : decode code 599 = .ok (.aload_n 0, 1) := by decide +kernel
theorem dL_600 : decode code 600 = .ok (.iload_n 3, 1) := by decide +kernel
theorem dL_601 : decode code 601 = .ok (.iconst 1, 1) := by decide +kernel
theorem dL_602 : decode code 602 = .ok (.iadd, 1) := by decide +kernel
theorem dL_603 : decode code 603 = .ok (.iaload, 1) := by decide +kernel
theorem dL_604 : decode code 604 = .ok (.aload_n 0, 1) := by decide +kernel
theorem dL_605 : decode code 605 = .ok (.iload_n 3, 1) := by decide +kernel
theorem dL_606 : decode code 606 = .ok (.iconst 2, 1) := by decide +kernel
theorem dL_607 : decode code 607 = .ok (.iadd, 1) := by decide +kernel
theorem dL_608 : decode code 608 = .ok (.iaload, 1) := by decide +kernel
theorem dL_609 : decode code 609 = .ok (.invokevirtual 95, 3) := by decide +kernel
theorem dL_612 : decode code 612 = .ok (.if_icmp .eq 28, 3) := by decide +kernel
theorem dL_615 : decode code 615 = .ok (.iconst 0, 1) := by decide +kernel
theorem dL_616 : decode code 616 = .ok (.ireturn, 1) := by decide +kernel
theorem dL_617 : decode code 617 = .ok (.aload_n 1, 1) := by decide +kernel
theorem dL_618 : decode code 618 = .ok (.aload_n 0, 1) := by decide +kernel
theorem dL_619 : decode code 619 = .ok (.iload_n 3, 1) := by decide +kernel
theorem dL_620 : decode code 620 = .ok (.iconst 1, 1) := by decide +kernel
theorem dL_621 : decode code 621 = .ok (.iadd, 1) := by decide +kernel
theorem dL_622 : decode code 622 = .ok (.iaload, 1) := by decide +kernel
theorem dL_623 : decode code 623 = .ok (.invokevirtual 96, 3) := by decide +kernel
theorem dL_626 : decode code 626 = .ok (.aload_n 2, 1) := by decide +kernel
theorem dL_627 : decode code 627 = .ok (.aload_n 0, 1) := by decide +kernel
theorem dL_628 : decode code 628 = .ok (.iload_n 3, 1) := by decide +kernel
theorem dL_629 : decode code 629 = .ok (.iconst 1, 1) := by decide +kernel
theorem dL_630 : decode code 630 = .ok (.iadd, 1) := by decide +kernel
theorem dL_631 : decode code 631 = .ok (.iaload, 1) := by decide +kernel
theorem dL_632 : decode code 632 = .ok (.invokevirtual 100, 3) := by decide +kernel
theorem dL_635 : decode code 635 = .ok (.if_icmp .eq 5, 3) := by decide +kernel
theorem dL_638 : decode code 638 = .ok (.iconst 0, 1) := by decide +kernel
theorem dL_639 : decode code 639 = .ok (.ireturn, 1) := by decide +kernel
theorem dL_640 : decode code 640 = .ok (.iinc 3 5, 3) := by decide +kernel
theorem dL_643 : decode code 643 = .ok (.goto (-625), 3) := by decide +kernel
theorem dL_646 : decode code 646 = .ok (.iconst 1, 1) := by decide +kernel
theorem dL_647 : decode code 647 = .ok (.ireturn, 1) := by decide +kernel
end
section
/-! decode rows of class PropertyDocumentsModel: laid by wip/gen/names.py -/
theorem dM_clear_0 : decode bM_clear 0 = .ok (.iconst 0, 1) := by decide +kernel
theorem dM_clear_1 : decode bM_clear 1 = .ok (.istore_n 2, 1) := by decide +kernel
theorem dM_clear_2 : decode bM_clear 2 = .ok (.iload_n 2, 1) := by decide +kernel
theorem dM_clear_3 : decode bM_clear 3 = .ok (.bipush 8, 2) := by decide +kernel
theorem dM_clear_5 : decode bM_clear 5 = .ok (.if_icmp .ge 45, 3) := by decide +kernel
theorem dM_clear_8 : decode bM_clear 8 = .ok (.aload_n 0, 1) := by decide +kernel
theorem dM_clear_9 : decode bM_clear 9 = .ok (.getfield 28, 3) := by decide +kernel
theorem dM_clear_12 : decode bM_clear 12 = .ok (.bipush 8, 2) := by decide +kernel
theorem dM_clear_14 : decode bM_clear 14 = .ok (.iload_n 1, 1) := by decide +kernel
theorem dM_clear_15 : decode bM_clear 15 = .ok (.imul, 1) := by decide +kernel
theorem dM_clear_16 : decode bM_clear 16 = .ok (.iload_n 2, 1) := by decide +kernel
theorem dM_clear_17 : decode bM_clear 17 = .ok (.iadd, 1) := by decide +kernel
theorem dM_clear_18 : decode bM_clear 18 = .ok (.iload_n 2, 1) := by decide +kernel
theorem dM_clear_19 : decode bM_clear 19 = .ok (.aload_n 0, 1) := by decide +kernel
theorem dM_clear_20 : decode bM_clear 20 = .ok (.getfield 88, 3) := by decide +kernel
theorem dM_clear_23 : decode bM_clear 23 = .ok (.if_icmp .ge 19, 3) := by decide +kernel
theorem dM_clear_26 : decode bM_clear 26 = .ok (.aload_n 0, 1) := by decide +kernel
theorem dM_clear_27 : decode bM_clear 27 = .ok (.getfield 19, 3) := by decide +kernel
theorem dM_clear_30 : decode bM_clear 30 = .ok (.iload_n 2, 1) := by decide +kernel
theorem dM_clear_31 : decode bM_clear 31 = .ok (.iaload, 1) := by decide +kernel
theorem dM_clear_32 : decode bM_clear 32 = .ok (.iconst 3, 1) := by decide +kernel
theorem dM_clear_33 : decode bM_clear 33 = .ok (.if_icmp .ne 9, 3) := by decide +kernel
theorem dM_clear_36 : decode bM_clear 36 = .ok (.ldc2_w 105, 3) := by decide +kernel
theorem dM_clear_39 : decode bM_clear 39 = .ok (.goto 4, 3) := by decide +kernel
theorem dM_clear_42 : decode bM_clear 42 = .ok (.lconst 0, 1) := by decide +kernel
theorem dM_clear_43 : decode bM_clear 43 = .ok (.lastore, 1) := by decide +kernel
theorem dM_clear_44 : decode bM_clear 44 = .ok (.iinc 2 1, 3) := by decide +kernel
theorem dM_clear_47 : decode bM_clear 47 = .ok (.goto (-45), 3) := by decide +kernel
theorem dM_clear_50 : decode bM_clear 50 = .ok (.return_, 1) := by decide +kernel
theorem dM_make_0 : decode bM_make 0 = .ok (.aload_n 0, 1) := by decide +kernel
theorem dM_make_1 : decode bM_make 1 = .ok (.iload_n 1, 1) := by decide +kernel
theorem dM_make_2 : decode bM_make 2 = .ok (.invokevirtual 94, 3) := by decide +kernel
theorem dM_make_5 : decode bM_make 5 = .ok (.ifCond .eq 12, 3) := by decide +kernel
theorem dM_make_8 : decode bM_make 8 = .ok (.aload_n 0, 1) := by decide +kernel
theorem dM_make_9 : decode bM_make 9 = .ok (.getfield 98, 3) := by decide +kernel
theorem dM_make_12 : decode bM_make 12 = .ok (.bipush 12, 2) := by decide +kernel
theorem dM_make_14 : decode bM_make 14 = .ok (.if_icmp .lt 5, 3) := by decide +kernel
theorem dM_make_17 : decode bM_make 17 = .ok (.iconst (-1), 1) := by decide +kernel
theorem dM_make_18 : decode bM_make 18 = .ok (.ireturn, 1) := by decide +kernel
theorem dM_make_19 : decode bM_make 19 = .ok (.aload_n 0, 1) := by decide +kernel
theorem dM_make_20 : decode bM_make 20 = .ok (.getfield 25, 3) := by decide +kernel
theorem dM_make_23 : decode bM_make 23 = .ok (.aload_n 0, 1) := by decide +kernel
theorem dM_make_24 : decode bM_make 24 = .ok (.getfield 98, 3) := by decide +kernel
theorem dM_make_27 : decode bM_make 27 = .ok (.iload_n 1, 1) := by decide +kernel
theorem dM_make_28 : decode bM_make 28 = .ok (.iastore, 1) := by decide +kernel
theorem dM_make_29 : decode bM_make 29 = .ok (.aload_n 0, 1) := by decide +kernel
theorem dM_make_30 : decode bM_make 30 = .ok (.aload_n 0, 1) := by decide +kernel
theorem dM_make_31 : decode bM_make 31 = .ok (.getfield 98, 3) := by decide +kernel
theorem dM_make_34 : decode bM_make 34 = .ok (.invokevirtual 107, 3) := by decide +kernel
theorem dM_make_37 : decode bM_make 37 = .ok (.aload_n 0, 1) := by decide +kernel
theorem dM_make_38 : decode bM_make 38 = .ok (.dup, 1) := by decide +kernel
theorem dM_make_39 : decode bM_make 39 = .ok (.getfield 98, 3) := by decide +kernel
theorem dM_make_42 : decode bM_make 42 = .ok (.iconst 1, 1) := by decide +kernel
theorem dM_make_43 : decode bM_make 43 = .ok (.iadd, 1) := by decide +kernel
theorem dM_make_44 : decode bM_make 44 = .ok (.putfield 98, 3) := by decide +kernel
theorem dM_make_47 : decode bM_make 47 = .ok (.aload_n 0, 1) := by decide +kernel
theorem dM_make_48 : decode bM_make 48 = .ok (.getfield 98, 3) := by decide +kernel
theorem dM_make_51 : decode bM_make 51 = .ok (.iconst 1, 1) := by decide +kernel
theorem dM_make_52 : decode bM_make 52 = .ok (.isub, 1) := by decide +kernel
theorem dM_make_53 : decode bM_make 53 = .ok (.ireturn, 1) := by decide +kernel
theorem dM_slot_0 : decode bM_slot 0 = .ok (.aload_n 0, 1) := by decide +kernel
theorem dM_slot_1 : decode bM_slot 1 = .ok (.iload_n 1, 1) := by decide +kernel
theorem dM_slot_2 : decode bM_slot 2 = .ok (.invokevirtual 111, 3) := by decide +kernel
theorem dM_slot_5 : decode bM_slot 5 = .ok (.ifCond .eq 17, 3) := by decide +kernel
theorem dM_slot_8 : decode bM_slot 8 = .ok (.aload_n 0, 1) := by decide +kernel
theorem dM_slot_9 : decode bM_slot 9 = .ok (.aload_n 0, 1) := by decide +kernel
theorem dM_slot_10 : decode bM_slot 10 = .ok (.getfield 25, 3) := by decide +kernel
theorem dM_slot_13 : decode bM_slot 13 = .ok (.iload_n 1, 1) := by decide +kernel
theorem dM_slot_14 : decode bM_slot 14 = .ok (.iaload, 1) := by decide +kernel
theorem dM_slot_15 : decode bM_slot 15 = .ok (.iload_n 2, 1) := by decide +kernel
theorem dM_slot_16 : decode bM_slot 16 = .ok (.invokevirtual 101, 3) := by decide +kernel
theorem dM_slot_19 : decode bM_slot 19 = .ok (.goto 4, 3) := by decide +kernel
theorem dM_slot_22 : decode bM_slot 22 = .ok (.iconst (-1), 1) := by decide +kernel
theorem dM_slot_23 : decode bM_slot 23 = .ok (.ireturn, 1) := by decide +kernel
theorem dM_put_0 : decode bM_put 0 = .ok (.aload_n 0, 1) := by decide +kernel
theorem dM_put_1 : decode bM_put 1 = .ok (.iload_n 1, 1) := by decide +kernel
theorem dM_put_2 : decode bM_put 2 = .ok (.iload_n 2, 1) := by decide +kernel
theorem dM_put_3 : decode bM_put 3 = .ok (.invokevirtual 114, 3) := by decide +kernel
theorem dM_put_6 : decode bM_put 6 = .ok (.istore 5, 2) := by decide +kernel
theorem dM_put_8 : decode bM_put 8 = .ok (.iload 5, 2) := by decide +kernel
theorem dM_put_10 : decode bM_put 10 = .ok (.ifCond .lt 14, 3) := by decide +kernel
theorem dM_put_13 : decode bM_put 13 = .ok (.aload_n 0, 1) := by decide +kernel
theorem dM_put_14 : decode bM_put 14 = .ok (.getfield 19, 3) := by decide +kernel
theorem dM_put_17 : decode bM_put 17 = .ok (.iload 5, 2) := by decide +kernel
theorem dM_put_19 : decode bM_put 19 = .ok (.iaload, 1) := by decide +kernel
theorem dM_put_20 : decode bM_put 20 = .ok (.iconst 3, 1) := by decide +kernel
theorem dM_put_21 : decode bM_put 21 = .ok (.if_icmp .ne 5, 3) := by decide +kernel
theorem dM_put_24 : decode bM_put 24 = .ok (.iconst 0, 1) := by decide +kernel
theorem dM_put_25 : decode bM_put 25 = .ok (.ireturn, 1) := by decide +kernel
theorem dM_put_26 : decode bM_put 26 = .ok (.aload_n 0, 1) := by decide +kernel
theorem dM_put_27 : decode bM_put 27 = .ok (.getfield 19, 3) := by decide +kernel
theorem dM_put_30 : decode bM_put 30 = .ok (.iload 5, 2) := by decide +kernel
theorem dM_put_32 : decode bM_put 32 = .ok (.iaload, 1) := by decide +kernel
theorem dM_put_33 : decode bM_put 33 = .ok (.ifCond .ne 19, 3) := by decide +kernel
theorem dM_put_36 : decode bM_put 36 = .ok (.lload_n 3, 1) := by decide +kernel
theorem dM_put_37 : decode bM_put 37 = .ok (.ldc2_w 117, 3) := by decide +kernel
theorem dM_put_40 : decode bM_put 40 = .ok (.lcmp, 1) := by decide +kernel
theorem dM_put_41 : decode bM_put 41 = .ok (.ifCond .lt 34, 3) := by decide +kernel
theorem dM_put_44 : decode bM_put 44 = .ok (.lload_n 3, 1) := by decide +kernel
theorem dM_put_45 : decode bM_put 45 = .ok (.ldc2_w 119, 3) := by decide +kernel
theorem dM_put_48 : decode bM_put 48 = .ok (.lcmp, 1) := by decide +kernel
theorem dM_put_49 : decode bM_put 49 = .ok (.ifCond .gt 26, 3) := by decide +kernel
theorem dM_put_52 : decode bM_put 52 = .ok (.aload_n 0, 1) := by decide +kernel
theorem dM_put_53 : decode bM_put 53 = .ok (.getfield 19, 3) := by decide +kernel
theorem dM_put_56 : decode bM_put 56 = .ok (.iload 5, 2) := by decide +kernel
theorem dM_put_58 : decode bM_put 58 = .ok (.iaload, 1) := by decide +kernel
theorem dM_put_59 : decode bM_put 59 = .ok (.iconst 2, 1) := by decide +kernel
theorem dM_put_60 : decode bM_put 60 = .ok (.if_icmp .ne 17, 3) := by decide +kernel
theorem dM_put_63 : decode bM_put 63 = .ok (.lload_n 3, 1) := by decide +kernel
theorem dM_put_64 : decode bM_put 64 = .ok (.lconst 0, 1) := by decide +kernel
theorem dM_put_65 : decode bM_put 65 = .ok (.lcmp, 1) := by decide +kernel
theorem dM_put_66 : decode bM_put 66 = .ok (.ifCond .lt 9, 3) := by decide +kernel
theorem dM_put_69 : decode bM_put 69 = .ok (.lload_n 3, 1) := by decide +kernel
theorem dM_put_70 : decode bM_put 70 = .ok (.lconst 1, 1) := by decide +kernel
theorem dM_put_71 : decode bM_put 71 = .ok (.lcmp, 1) := by decide +kernel
theorem dM_put_72 : decode bM_put 72 = .ok (.ifCond .le 5, 3) := by decide +kernel
theorem dM_put_75 : decode bM_put 75 = .ok (.iconst 0, 1) := by decide +kernel
theorem dM_put_76 : decode bM_put 76 = .ok (.ireturn, 1) := by decide +kernel
theorem dM_put_77 : decode bM_put 77 = .ok (.aload_n 0, 1) := by decide +kernel
theorem dM_put_78 : decode bM_put 78 = .ok (.getfield 28, 3) := by decide +kernel
theorem dM_put_81 : decode bM_put 81 = .ok (.bipush 8, 2) := by decide +kernel
theorem dM_put_83 : decode bM_put 83 = .ok (.iload_n 1, 1) := by decide +kernel
theorem dM_put_84 : decode bM_put 84 = .ok (.imul, 1) := by decide +kernel
theorem dM_put_85 : decode bM_put 85 = .ok (.iload 5, 2) := by decide +kernel
theorem dM_put_87 : decode bM_put 87 = .ok (.iadd, 1) := by decide +kernel
theorem dM_put_88 : decode bM_put 88 = .ok (.lload_n 3, 1) := by decide +kernel
theorem dM_put_89 : decode bM_put 89 = .ok (.lastore, 1) := by decide +kernel
theorem dM_put_90 : decode bM_put 90 = .ok (.iconst 1, 1) := by decide +kernel
theorem dM_put_91 : decode bM_put 91 = .ok (.ireturn, 1) := by decide +kernel
theorem dM_link_0 : decode bM_link 0 = .ok (.aload_n 0, 1) := by decide +kernel
theorem dM_link_1 : decode bM_link 1 = .ok (.iload_n 1, 1) := by decide +kernel
theorem dM_link_2 : decode bM_link 2 = .ok (.iload_n 2, 1) := by decide +kernel
theorem dM_link_3 : decode bM_link 3 = .ok (.invokevirtual 114, 3) := by decide +kernel
theorem dM_link_6 : decode bM_link 6 = .ok (.istore 4, 2) := by decide +kernel
theorem dM_link_8 : decode bM_link 8 = .ok (.iload 4, 2) := by decide +kernel
theorem dM_link_10 : decode bM_link 10 = .ok (.ifCond .lt 14, 3) := by decide +kernel
theorem dM_link_13 : decode bM_link 13 = .ok (.aload_n 0, 1) := by decide +kernel
theorem dM_link_14 : decode bM_link 14 = .ok (.getfield 19, 3) := by decide +kernel
theorem dM_link_17 : decode bM_link 17 = .ok (.iload 4, 2) := by decide +kernel
theorem dM_link_19 : decode bM_link 19 = .ok (.iaload, 1) := by decide +kernel
theorem dM_link_20 : decode bM_link 20 = .ok (.iconst 3, 1) := by decide +kernel
theorem dM_link_21 : decode bM_link 21 = .ok (.if_icmp .eq 5, 3) := by decide +kernel
theorem dM_link_24 : decode bM_link 24 = .ok (.iconst 0, 1) := by decide +kernel
theorem dM_link_25 : decode bM_link 25 = .ok (.ireturn, 1) := by decide +kernel
theorem dM_link_26 : decode bM_link 26 = .ok (.iload_n 3, 1) := by decide +kernel
theorem dM_link_27 : decode bM_link 27 = .ok (.iconst (-1), 1) := by decide +kernel
theorem dM_link_28 : decode bM_link 28 = .ok (.if_icmp .eq 33, 3) := by decide +kernel
theorem dM_link_31 : decode bM_link 31 = .ok (.aload_n 0, 1) := by decide +kernel
theorem dM_link_32 : decode bM_link 32 = .ok (.iload_n 3, 1) := by decide +kernel
theorem dM_link_33 : decode bM_link 33 = .ok (.invokevirtual 111, 3) := by decide +kernel
theorem dM_link_36 : decode bM_link 36 = .ok (.ifCond .eq 23, 3) := by decide +kernel
theorem dM_link_39 : decode bM_link 39 = .ok (.aload_n 0, 1) := by decide +kernel
theorem dM_link_40 : decode bM_link 40 = .ok (.aload_n 0, 1) := by decide +kernel
theorem dM_link_41 : decode bM_link 41 = .ok (.getfield 25, 3) := by decide +kernel
theorem dM_link_44 : decode bM_link 44 = .ok (.iload_n 3, 1) := by decide +kernel
theorem dM_link_45 : decode bM_link 45 = .ok (.iaload, 1) := by decide +kernel
theorem dM_link_46 : decode bM_link 46 = .ok (.aload_n 0, 1) := by decide +kernel
theorem dM_link_47 : decode bM_link 47 = .ok (.getfield 22, 3) := by decide +kernel
theorem dM_link_50 : decode bM_link 50 = .ok (.iload 4, 2) := by decide +kernel
theorem dM_link_52 : decode bM_link 52 = .ok (.iaload, 1) := by decide +kernel
theorem dM_link_53 : decode bM_link 53 = .ok (.invokevirtual 84, 3) := by decide +kernel
theorem dM_link_56 : decode bM_link 56 = .ok (.ifCond .ne 5, 3) := by decide +kernel
theorem dM_link_59 : decode bM_link 59 = .ok (.iconst 0, 1) := by decide +kernel
theorem dM_link_60 : decode bM_link 60 = .ok (.ireturn, 1) := by decide +kernel
theorem dM_link_61 : decode bM_link 61 = .ok (.aload_n 0, 1) := by decide +kernel
theorem dM_link_62 : decode bM_link 62 = .ok (.getfield 28, 3) := by decide +kernel
theorem dM_link_65 : decode bM_link 65 = .ok (.bipush 8, 2) := by decide +kernel
theorem dM_link_67 : decode bM_link 67 = .ok (.iload_n 1, 1) := by decide +kernel
theorem dM_link_68 : decode bM_link 68 = .ok (.imul, 1) := by decide +kernel
theorem dM_link_69 : decode bM_link 69 = .ok (.iload 4, 2) := by decide +kernel
theorem dM_link_71 : decode bM_link 71 = .ok (.iadd, 1) := by decide +kernel
theorem dM_link_72 : decode bM_link 72 = .ok (.iload_n 3, 1) := by decide +kernel
theorem dM_link_73 : decode bM_link 73 = .ok (.i2l, 1) := by decide +kernel
theorem dM_link_74 : decode bM_link 74 = .ok (.lastore, 1) := by decide +kernel
theorem dM_link_75 : decode bM_link 75 = .ok (.iconst 1, 1) := by decide +kernel
theorem dM_link_76 : decode bM_link 76 = .ok (.ireturn, 1) := by decide +kernel
theorem dM_value_0 : decode bM_value 0 = .ok (.aload_n 0, 1) := by decide +kernel
theorem dM_value_1 : decode bM_value 1 = .ok (.iload_n 1, 1) := by decide +kernel
theorem dM_value_2 : decode bM_value 2 = .ok (.iload_n 2, 1) := by decide +kernel
theorem dM_value_3 : decode bM_value 3 = .ok (.invokevirtual 114, 3) := by decide +kernel
theorem dM_value_6 : decode bM_value 6 = .ok (.istore_n 3, 1) := by decide +kernel
theorem dM_value_7 : decode bM_value 7 = .ok (.iload_n 3, 1) := by decide +kernel
theorem dM_value_8 : decode bM_value 8 = .ok (.ifCond .lt 13, 3) := by decide +kernel
theorem dM_value_11 : decode bM_value 11 = .ok (.aload_n 0, 1) := by decide +kernel
theorem dM_value_12 : decode bM_value 12 = .ok (.getfield 19, 3) := by decide +kernel
theorem dM_value_15 : decode bM_value 15 = .ok (.iload_n 3, 1) := by decide +kernel
theorem dM_value_16 : decode bM_value 16 = .ok (.iaload, 1) := by decide +kernel
theorem dM_value_17 : decode bM_value 17 = .ok (.iconst 3, 1) := by decide +kernel
theorem dM_value_18 : decode bM_value 18 = .ok (.if_icmp .ne 7, 3) := by decide +kernel
theorem dM_value_21 : decode bM_value 21 = .ok (.lconst 0, 1) := by decide +kernel
theorem dM_value_22 : decode bM_value 22 = .ok (.goto 14, 3) := by decide +kernel
theorem dM_value_25 : decode bM_value 25 = .ok (.aload_n 0, 1) := by decide +kernel
theorem dM_value_26 : decode bM_value 26 = .ok (.getfield 28, 3) := by decide +kernel
theorem dM_value_29 : decode bM_value 29 = .ok (.bipush 8, 2) := by decide +kernel
theorem dM_value_31 : decode bM_value 31 = .ok (.iload_n 1, 1) := by decide +kernel
theorem dM_value_32 : decode bM_value 32 = .ok (.imul, 1) := by decide +kernel
theorem dM_value_33 : decode bM_value 33 = .ok (.iload_n 3, 1) := by decide +kernel
theorem dM_value_34 : decode bM_value 34 = .ok (.iadd, 1) := by decide +kernel
theorem dM_value_35 : decode bM_value 35 = .ok (.laload, 1) := by decide +kernel
theorem dM_value_36 : decode bM_value 36 = .ok (.lreturn, 1) := by decide +kernel
theorem dM_linked_0 : decode bM_linked 0 = .ok (.aload_n 0, 1) := by decide +kernel
theorem dM_linked_1 : decode bM_linked 1 = .ok (.iload_n 1, 1) := by decide +kernel
theorem dM_linked_2 : decode bM_linked 2 = .ok (.iload_n 2, 1) := by decide +kernel
theorem dM_linked_3 : decode bM_linked 3 = .ok (.invokevirtual 114, 3) := by decide +kernel
theorem dM_linked_6 : decode bM_linked 6 = .ok (.istore_n 3, 1) := by decide +kernel
theorem dM_linked_7 : decode bM_linked 7 = .ok (.iload_n 3, 1) := by decide +kernel
theorem dM_linked_8 : decode bM_linked 8 = .ok (.ifCond .lt 13, 3) := by decide +kernel
theorem dM_linked_11 : decode bM_linked 11 = .ok (.aload_n 0, 1) := by decide +kernel
theorem dM_linked_12 : decode bM_linked 12 = .ok (.getfield 19, 3) := by decide +kernel
theorem dM_linked_15 : decode bM_linked 15 = .ok (.iload_n 3, 1) := by decide +kernel
theorem dM_linked_16 : decode bM_linked 16 = .ok (.iaload, 1) := by decide +kernel
theorem dM_linked_17 : decode bM_linked 17 = .ok (.iconst 3, 1) := by decide +kernel
theorem dM_linked_18 : decode bM_linked 18 = .ok (.if_icmp .eq 7, 3) := by decide +kernel
theorem dM_linked_21 : decode bM_linked 21 = .ok (.iconst (-1), 1) := by decide +kernel
theorem dM_linked_22 : decode bM_linked 22 = .ok (.goto 15, 3) := by decide +kernel
theorem dM_linked_25 : decode bM_linked 25 = .ok (.aload_n 0, 1) := by decide +kernel
theorem dM_linked_26 : decode bM_linked 26 = .ok (.getfield 28, 3) := by decide +kernel
theorem dM_linked_29 : decode bM_linked 29 = .ok (.bipush 8, 2) := by decide +kernel
theorem dM_linked_31 : decode bM_linked 31 = .ok (.iload_n 1, 1) := by decide +kernel
theorem dM_linked_32 : decode bM_linked 32 = .ok (.imul, 1) := by decide +kernel
theorem dM_linked_33 : decode bM_linked 33 = .ok (.iload_n 3, 1) := by decide +kernel
theorem dM_linked_34 : decode bM_linked 34 = .ok (.iadd, 1) := by decide +kernel
theorem dM_linked_35 : decode bM_linked 35 = .ok (.laload, 1) := by decide +kernel
theorem dM_linked_36 : decode bM_linked 36 = .ok (.l2i, 1) := by decide +kernel
theorem dM_linked_37 : decode bM_linked 37 = .ok (.ireturn, 1) := by decide +kernel
theorem dM_classOf_0 : decode bM_classOf 0 = .ok (.aload_n 0, 1) := by decide +kernel
theorem dM_classOf_1 : decode bM_classOf 1 = .ok (.iload_n 1, 1) := by decide +kernel
theorem dM_classOf_2 : decode bM_classOf 2 = .ok (.invokevirtual 111, 3) := by decide +kernel
theorem dM_classOf_5 : decode bM_classOf 5 = .ok (.ifCond .eq 12, 3) := by decide +kernel
theorem dM_classOf_8 : decode bM_classOf 8 = .ok (.aload_n 0, 1) := by decide +kernel
theorem dM_classOf_9 : decode bM_classOf 9 = .ok (.getfield 25, 3) := by decide +kernel
theorem dM_classOf_12 : decode bM_classOf 12 = .ok (.iload_n 1, 1) := by decide +kernel
theorem dM_classOf_13 : decode bM_classOf 13 = .ok (.iaload, 1) := by decide +kernel
theorem dM_classOf_14 : decode bM_classOf 14 = .ok (.goto 4, 3) := by decide +kernel
theorem dM_classOf_17 : decode bM_classOf 17 = .ok (.iconst (-1), 1) := by decide +kernel
theorem dM_classOf_18 : decode bM_classOf 18 = .ok (.ireturn, 1) := by decide +kernel
theorem dM_objects_0 : decode bM_objects 0 = .ok (.aload_n 0, 1) := by decide +kernel
theorem dM_objects_1 : decode bM_objects 1 = .ok (.getfield 98, 3) := by decide +kernel
theorem dM_objects_4 : decode bM_objects 4 = .ok (.ireturn, 1) := by decide +kernel
theorem dM_drop_0 : decode bM_drop 0 = .ok (.aload_n 0, 1) := by decide +kernel
theorem dM_drop_1 : decode bM_drop 1 = .ok (.iconst 0, 1) := by decide +kernel
theorem dM_drop_2 : decode bM_drop 2 = .ok (.putfield 98, 3) := by decide +kernel
theorem dM_drop_5 : decode bM_drop 5 = .ok (.return_, 1) := by decide +kernel
theorem dM_init_0 : decode bM_init 0 = .ok (.aload_n 0, 1) := by decide +kernel
theorem dM_init_1 : decode bM_init 1 = .ok (.invokespecial 1, 3) := by decide +kernel
theorem dM_init_4 : decode bM_init 4 = .ok (.aload_n 0, 1) := by decide +kernel
theorem dM_init_5 : decode bM_init 5 = .ok (.bipush 6, 2) := by decide +kernel
theorem dM_init_7 : decode bM_init 7 = .ok (.newarray .int, 2) := by decide +kernel
theorem dM_init_9 : decode bM_init 9 = .ok (.putfield 7, 3) := by decide +kernel
theorem dM_init_12 : decode bM_init 12 = .ok (.aload_n 0, 1) := by decide +kernel
theorem dM_init_13 : decode bM_init 13 = .ok (.bipush 8, 2) := by decide +kernel
theorem dM_init_15 : decode bM_init 15 = .ok (.newarray .int, 2) := by decide +kernel
theorem dM_init_17 : decode bM_init 17 = .ok (.putfield 13, 3) := by decide +kernel
theorem dM_init_20 : decode bM_init 20 = .ok (.aload_n 0, 1) := by decide +kernel
theorem dM_init_21 : decode bM_init 21 = .ok (.bipush 8, 2) := by decide +kernel
theorem dM_init_23 : decode bM_init 23 = .ok (.newarray .int, 2) := by decide +kernel
theorem dM_init_25 : decode bM_init 25 = .ok (.putfield 16, 3) := by decide +kernel
theorem dM_init_28 : decode bM_init 28 = .ok (.aload_n 0, 1) := by decide +kernel
theorem dM_init_29 : decode bM_init 29 = .ok (.bipush 8, 2) := by decide +kernel
theorem dM_init_31 : decode bM_init 31 = .ok (.newarray .int, 2) := by decide +kernel
theorem dM_init_33 : decode bM_init 33 = .ok (.putfield 19, 3) := by decide +kernel
theorem dM_init_36 : decode bM_init 36 = .ok (.aload_n 0, 1) := by decide +kernel
theorem dM_init_37 : decode bM_init 37 = .ok (.bipush 8, 2) := by decide +kernel
theorem dM_init_39 : decode bM_init 39 = .ok (.newarray .int, 2) := by decide +kernel
theorem dM_init_41 : decode bM_init 41 = .ok (.putfield 22, 3) := by decide +kernel
theorem dM_init_44 : decode bM_init 44 = .ok (.aload_n 0, 1) := by decide +kernel
theorem dM_init_45 : decode bM_init 45 = .ok (.bipush 12, 2) := by decide +kernel
theorem dM_init_47 : decode bM_init 47 = .ok (.newarray .int, 2) := by decide +kernel
theorem dM_init_49 : decode bM_init 49 = .ok (.putfield 25, 3) := by decide +kernel
theorem dM_init_52 : decode bM_init 52 = .ok (.aload_n 0, 1) := by decide +kernel
theorem dM_init_53 : decode bM_init 53 = .ok (.bipush 96, 2) := by decide +kernel
theorem dM_init_55 : decode bM_init 55 = .ok (.newarray .long, 2) := by decide +kernel
theorem dM_init_57 : decode bM_init 57 = .ok (.putfield 28, 3) := by decide +kernel
theorem dM_init_60 : decode bM_init 60 = .ok (.aload_n 0, 1) := by decide +kernel
theorem dM_init_61 : decode bM_init 61 = .ok (.bipush 120, 2) := by decide +kernel
theorem dM_init_63 : decode bM_init 63 = .ok (.newarray .int, 2) := by decide +kernel
theorem dM_init_65 : decode bM_init 65 = .ok (.putfield 32, 3) := by decide +kernel
theorem dM_init_68 : decode bM_init 68 = .ok (.aload_n 0, 1) := by decide +kernel
theorem dM_init_69 : decode bM_init 69 = .ok (.bipush 120, 2) := by decide +kernel
theorem dM_init_71 : decode bM_init 71 = .ok (.newarray .int, 2) := by decide +kernel
theorem dM_init_73 : decode bM_init 73 = .ok (.putfield 35, 3) := by decide +kernel
theorem dM_init_76 : decode bM_init 76 = .ok (.aload_n 0, 1) := by decide +kernel
theorem dM_init_77 : decode bM_init 77 = .ok (.iconst 5, 1) := by decide +kernel
theorem dM_init_78 : decode bM_init 78 = .ok (.newarray .int, 2) := by decide +kernel
theorem dM_init_80 : decode bM_init 80 = .ok (.putfield 38, 3) := by decide +kernel
theorem dM_init_83 : decode bM_init 83 = .ok (.aload_n 0, 1) := by decide +kernel
theorem dM_init_84 : decode bM_init 84 = .ok (.iconst 5, 1) := by decide +kernel
theorem dM_init_85 : decode bM_init 85 = .ok (.newarray .int, 2) := by decide +kernel
theorem dM_init_87 : decode bM_init 87 = .ok (.putfield 41, 3) := by decide +kernel
theorem dM_init_90 : decode bM_init 90 = .ok (.aload_n 0, 1) := by decide +kernel
theorem dM_init_91 : decode bM_init 91 = .ok (.iconst 5, 1) := by decide +kernel
theorem dM_init_92 : decode bM_init 92 = .ok (.newarray .int, 2) := by decide +kernel
theorem dM_init_94 : decode bM_init 94 = .ok (.putfield 44, 3) := by decide +kernel
theorem dM_init_97 : decode bM_init 97 = .ok (.aload_n 0, 1) := by decide +kernel
theorem dM_init_98 : decode bM_init 98 = .ok (.bipush 25, 2) := by decide +kernel
theorem dM_init_100 : decode bM_init 100 = .ok (.newarray .int, 2) := by decide +kernel
theorem dM_init_102 : decode bM_init 102 = .ok (.putfield 47, 3) := by decide +kernel
theorem dM_init_105 : decode bM_init 105 = .ok (.aload_n 0, 1) := by decide +kernel
theorem dM_init_106 : decode bM_init 106 = .ok (.bipush 25, 2) := by decide +kernel
theorem dM_init_108 : decode bM_init 108 = .ok (.newarray .int, 2) := by decide +kernel
theorem dM_init_110 : decode bM_init 110 = .ok (.putfield 50, 3) := by decide +kernel
theorem dM_init_113 : decode bM_init 113 = .ok (.aload_n 0, 1) := by decide +kernel
theorem dM_init_114 : decode bM_init 114 = .ok (.bipush 25, 2) := by decide +kernel
theorem dM_init_116 : decode bM_init 116 = .ok (.newarray .int, 2) := by decide +kernel
theorem dM_init_118 : decode bM_init 118 = .ok (.putfield 53, 3) := by decide +kernel
theorem dM_init_121 : decode bM_init 121 = .ok (.aload_n 0, 1) := by decide +kernel
theorem dM_init_122 : decode bM_init 122 = .ok (.bipush 25, 2) := by decide +kernel
theorem dM_init_124 : decode bM_init 124 = .ok (.newarray .int, 2) := by decide +kernel
theorem dM_init_126 : decode bM_init 126 = .ok (.putfield 56, 3) := by decide +kernel
theorem dM_init_129 : decode bM_init 129 = .ok (.aload_n 0, 1) := by decide +kernel
theorem dM_init_130 : decode bM_init 130 = .ok (.bipush 60, 2) := by decide +kernel
theorem dM_init_132 : decode bM_init 132 = .ok (.newarray .int, 2) := by decide +kernel
theorem dM_init_134 : decode bM_init 134 = .ok (.putfield 59, 3) := by decide +kernel
theorem dM_init_137 : decode bM_init 137 = .ok (.aload_n 0, 1) := by decide +kernel
theorem dM_init_138 : decode bM_init 138 = .ok (.bipush 60, 2) := by decide +kernel
theorem dM_init_140 : decode bM_init 140 = .ok (.newarray .int, 2) := by decide +kernel
theorem dM_init_142 : decode bM_init 142 = .ok (.putfield 62, 3) := by decide +kernel
theorem dM_init_145 : decode bM_init 145 = .ok (.aload_n 0, 1) := by decide +kernel
theorem dM_init_146 : decode bM_init 146 = .ok (.bipush 60, 2) := by decide +kernel
theorem dM_init_148 : decode bM_init 148 = .ok (.newarray .int, 2) := by decide +kernel
theorem dM_init_150 : decode bM_init 150 = .ok (.putfield 65, 3) := by decide +kernel
theorem dM_init_153 : decode bM_init 153 = .ok (.aload_n 0, 1) := by decide +kernel
theorem dM_init_154 : decode bM_init 154 = .ok (.bipush 60, 2) := by decide +kernel
theorem dM_init_156 : decode bM_init 156 = .ok (.newarray .int, 2) := by decide +kernel
theorem dM_init_158 : decode bM_init 158 = .ok (.putfield 68, 3) := by decide +kernel
theorem dM_init_161 : decode bM_init 161 = .ok (.aload_n 0, 1) := by decide +kernel
theorem dM_init_162 : decode bM_init 162 = .ok (.bipush 60, 2) := by decide +kernel
theorem dM_init_164 : decode bM_init 164 = .ok (.newarray .int, 2) := by decide +kernel
theorem dM_init_166 : decode bM_init 166 = .ok (.putfield 71, 3) := by decide +kernel
theorem dM_init_169 : decode bM_init 169 = .ok (.aload_n 0, 1) := by decide +kernel
theorem dM_init_170 : decode bM_init 170 = .ok (.bipush 60, 2) := by decide +kernel
theorem dM_init_172 : decode bM_init 172 = .ok (.newarray .int, 2) := by decide +kernel
theorem dM_init_174 : decode bM_init 174 = .ok (.putfield 74, 3) := by decide +kernel
theorem dM_init_177 : decode bM_init 177 = .ok (.aload_n 0, 1) := by decide +kernel
theorem dM_init_178 : decode bM_init 178 = .ok (.bipush 6, 2) := by decide +kernel
theorem dM_init_180 : decode bM_init 180 = .ok (.newarray .int, 2) := by decide +kernel
theorem dM_init_182 : decode bM_init 182 = .ok (.putfield 77, 3) := by decide +kernel
theorem dM_init_185 : decode bM_init 185 = .ok (.return_, 1) := by decide +kernel
theorem dM_write_0 : decode bM_write 0 = .ok (.aload_n 0, 1) := by decide +kernel
theorem dM_write_1 : decode bM_write 1 = .ok (.getfield 121, 3) := by decide +kernel
theorem dM_write_4 : decode bM_write 4 = .ok (.bipush 120, 2) := by decide +kernel
theorem dM_write_6 : decode bM_write 6 = .ok (.if_icmp .lt 9, 3) := by decide +kernel
theorem dM_write_9 : decode bM_write 9 = .ok (.aload_n 0, 1) := by decide +kernel
theorem dM_write_10 : decode bM_write 10 = .ok (.iconst 1, 1) := by decide +kernel
theorem dM_write_11 : decode bM_write 11 = .ok (.putfield 124, 3) := by decide +kernel
theorem dM_write_14 : decode bM_write 14 = .ok (.return_, 1) := by decide +kernel
theorem dM_write_15 : decode bM_write 15 = .ok (.aload_n 0, 1) := by decide +kernel
theorem dM_write_16 : decode bM_write 16 = .ok (.getfield 35, 3) := by decide +kernel
theorem dM_write_19 : decode bM_write 19 = .ok (.aload_n 0, 1) := by decide +kernel
theorem dM_write_20 : decode bM_write 20 = .ok (.getfield 121, 3) := by decide +kernel
theorem dM_write_23 : decode bM_write 23 = .ok (.iload_n 1, 1) := by decide +kernel
theorem dM_write_24 : decode bM_write 24 = .ok (.iastore, 1) := by decide +kernel
theorem dM_write_25 : decode bM_write 25 = .ok (.aload_n 0, 1) := by decide +kernel
theorem dM_write_26 : decode bM_write 26 = .ok (.dup, 1) := by decide +kernel
theorem dM_write_27 : decode bM_write 27 = .ok (.getfield 121, 3) := by decide +kernel
theorem dM_write_30 : decode bM_write 30 = .ok (.iconst 1, 1) := by decide +kernel
theorem dM_write_31 : decode bM_write 31 = .ok (.iadd, 1) := by decide +kernel
theorem dM_write_32 : decode bM_write 32 = .ok (.putfield 121, 3) := by decide +kernel
theorem dM_write_35 : decode bM_write 35 = .ok (.return_, 1) := by decide +kernel
theorem dM_writeNumber_0 : decode bM_writeNumber 0 = .ok (.iconst 0, 1) := by decide +kernel
theorem dM_writeNumber_1 : decode bM_writeNumber 1 = .ok (.istore 4, 2) := by decide +kernel
theorem dM_writeNumber_3 : decode bM_writeNumber 3 = .ok (.iload 4, 2) := by decide +kernel
theorem dM_writeNumber_5 : decode bM_writeNumber 5 = .ok (.iload_n 3, 1) := by decide +kernel
theorem dM_writeNumber_6 : decode bM_writeNumber 6 = .ok (.if_icmp .ge 25, 3) := by decide +kernel
theorem dM_writeNumber_9 : decode bM_writeNumber 9 = .ok (.aload_n 0, 1) := by decide +kernel
theorem dM_writeNumber_10 : decode bM_writeNumber 10 = .ok (.lload_n 1, 1) := by decide +kernel
theorem dM_writeNumber_11 : decode bM_writeNumber 11 = .ok (.bipush 8, 2) := by decide +kernel
theorem dM_writeNumber_13 : decode bM_writeNumber 13 = .ok (.iload 4, 2) := by decide +kernel
theorem dM_writeNumber_15 : decode bM_writeNumber 15 = .ok (.imul, 1) := by decide +kernel
theorem dM_writeNumber_16 : decode bM_writeNumber 16 = .ok (.lshr, 1) := by decide +kernel
theorem dM_writeNumber_17 : decode bM_writeNumber 17 = .ok (.ldc2_w 128, 3) := by decide +kernel
theorem dM_writeNumber_20 : decode bM_writeNumber 20 = .ok (.land, 1) := by decide +kernel
theorem dM_writeNumber_21 : decode bM_writeNumber 21 = .ok (.l2i, 1) := by decide +kernel
theorem dM_writeNumber_22 : decode bM_writeNumber 22 = .ok (.invokevirtual 130, 3) := by decide +kernel
theorem dM_writeNumber_25 : decode bM_writeNumber 25 = .ok (.iinc 4 1, 3) := by decide +kernel
theorem dM_writeNumber_28 : decode bM_writeNumber 28 = .ok (.goto (-25), 3) := by decide +kernel
theorem dM_writeNumber_31 : decode bM_writeNumber 31 = .ok (.return_, 1) := by decide +kernel
theorem dM_begin_0 : decode bM_begin 0 = .ok (.aload_n 0, 1) := by decide +kernel
theorem dM_begin_1 : decode bM_begin 1 = .ok (.getfield 133, 3) := by decide +kernel
theorem dM_begin_4 : decode bM_begin 4 = .ok (.iconst 5, 1) := by decide +kernel
theorem dM_begin_5 : decode bM_begin 5 = .ok (.if_icmp .lt 9, 3) := by decide +kernel
theorem dM_begin_8 : decode bM_begin 8 = .ok (.aload_n 0, 1) := by decide +kernel
theorem dM_begin_9 : decode bM_begin 9 = .ok (.iconst 1, 1) := by decide +kernel
theorem dM_begin_10 : decode bM_begin 10 = .ok (.putfield 124, 3) := by decide +kernel
theorem dM_begin_13 : decode bM_begin 13 = .ok (.return_, 1) := by decide +kernel
theorem dM_begin_14 : decode bM_begin 14 = .ok (.aload_n 0, 1) := by decide +kernel
theorem dM_begin_15 : decode bM_begin 15 = .ok (.getfield 38, 3) := by decide +kernel
theorem dM_begin_18 : decode bM_begin 18 = .ok (.aload_n 0, 1) := by decide +kernel
theorem dM_begin_19 : decode bM_begin 19 = .ok (.getfield 133, 3) := by decide +kernel
theorem dM_begin_22 : decode bM_begin 22 = .ok (.iload_n 1, 1) := by decide +kernel
theorem dM_begin_23 : decode bM_begin 23 = .ok (.iastore, 1) := by decide +kernel
theorem dM_begin_24 : decode bM_begin 24 = .ok (.aload_n 0, 1) := by decide +kernel
theorem dM_begin_25 : decode bM_begin 25 = .ok (.getfield 41, 3) := by decide +kernel
theorem dM_begin_28 : decode bM_begin 28 = .ok (.aload_n 0, 1) := by decide +kernel
theorem dM_begin_29 : decode bM_begin 29 = .ok (.getfield 133, 3) := by decide +kernel
theorem dM_begin_32 : decode bM_begin 32 = .ok (.aload_n 0, 1) := by decide +kernel
theorem dM_begin_33 : decode bM_begin 33 = .ok (.getfield 121, 3) := by decide +kernel
theorem dM_begin_36 : decode bM_begin 36 = .ok (.iastore, 1) := by decide +kernel
theorem dM_begin_37 : decode bM_begin 37 = .ok (.aload_n 0, 1) := by decide +kernel
theorem dM_begin_38 : decode bM_begin 38 = .ok (.getfield 44, 3) := by decide +kernel
theorem dM_begin_41 : decode bM_begin 41 = .ok (.aload_n 0, 1) := by decide +kernel
theorem dM_begin_42 : decode bM_begin 42 = .ok (.getfield 133, 3) := by decide +kernel
theorem dM_begin_45 : decode bM_begin 45 = .ok (.iconst 0, 1) := by decide +kernel
theorem dM_begin_46 : decode bM_begin 46 = .ok (.iastore, 1) := by decide +kernel
theorem dM_begin_47 : decode bM_begin 47 = .ok (.aload_n 0, 1) := by decide +kernel
theorem dM_begin_48 : decode bM_begin 48 = .ok (.dup, 1) := by decide +kernel
theorem dM_begin_49 : decode bM_begin 49 = .ok (.getfield 133, 3) := by decide +kernel
theorem dM_begin_52 : decode bM_begin 52 = .ok (.iconst 1, 1) := by decide +kernel
theorem dM_begin_53 : decode bM_begin 53 = .ok (.iadd, 1) := by decide +kernel
theorem dM_begin_54 : decode bM_begin 54 = .ok (.putfield 133, 3) := by decide +kernel
theorem dM_begin_57 : decode bM_begin 57 = .ok (.aload_n 0, 1) := by decide +kernel
theorem dM_begin_58 : decode bM_begin 58 = .ok (.lconst 0, 1) := by decide +kernel
theorem dM_begin_59 : decode bM_begin 59 = .ok (.iconst 4, 1) := by decide +kernel
theorem dM_begin_60 : decode bM_begin 60 = .ok (.invokevirtual 136, 3) := by decide +kernel
theorem dM_begin_63 : decode bM_begin 63 = .ok (.aload_n 0, 1) := by decide +kernel
theorem dM_begin_64 : decode bM_begin 64 = .ok (.getfield 25, 3) := by decide +kernel
theorem dM_begin_67 : decode bM_begin 67 = .ok (.iload_n 1, 1) := by decide +kernel
theorem dM_begin_68 : decode bM_begin 68 = .ok (.iaload, 1) := by decide +kernel
theorem dM_begin_69 : decode bM_begin 69 = .ok (.iload_n 2, 1) := by decide +kernel
theorem dM_begin_70 : decode bM_begin 70 = .ok (.if_icmp .eq 51, 3) := by decide +kernel
theorem dM_begin_73 : decode bM_begin 73 = .ok (.aload_n 0, 1) := by decide +kernel
theorem dM_begin_74 : decode bM_begin 74 = .ok (.iconst 2, 1) := by decide +kernel
theorem dM_begin_75 : decode bM_begin 75 = .ok (.invokevirtual 130, 3) := by decide +kernel
theorem dM_begin_78 : decode bM_begin 78 = .ok (.aload_n 0, 1) := by decide +kernel
theorem dM_begin_79 : decode bM_begin 79 = .ok (.bipush 95, 2) := by decide +kernel
theorem dM_begin_81 : decode bM_begin 81 = .ok (.invokevirtual 130, 3) := by decide +kernel
theorem dM_begin_84 : decode bM_begin 84 = .ok (.aload_n 0, 1) := by decide +kernel
theorem dM_begin_85 : decode bM_begin 85 = .ok (.bipush 116, 2) := by decide +kernel
theorem dM_begin_87 : decode bM_begin 87 = .ok (.invokevirtual 130, 3) := by decide +kernel
theorem dM_begin_90 : decode bM_begin 90 = .ok (.aload_n 0, 1) := by decide +kernel
theorem dM_begin_91 : decode bM_begin 91 = .ok (.iconst 0, 1) := by decide +kernel
theorem dM_begin_92 : decode bM_begin 92 = .ok (.invokevirtual 130, 3) := by decide +kernel
theorem dM_begin_95 : decode bM_begin 95 = .ok (.aload_n 0, 1) := by decide +kernel
theorem dM_begin_96 : decode bM_begin 96 = .ok (.ldc2_w 140, 3) := by decide +kernel
theorem dM_begin_99 : decode bM_begin 99 = .ok (.iconst 4, 1) := by decide +kernel
theorem dM_begin_100 : decode bM_begin 100 = .ok (.invokevirtual 136, 3) := by decide +kernel
theorem dM_begin_103 : decode bM_begin 103 = .ok (.aload_n 0, 1) := by decide +kernel
theorem dM_begin_104 : decode bM_begin 104 = .ok (.bipush 65, 2) := by decide +kernel
theorem dM_begin_106 : decode bM_begin 106 = .ok (.aload_n 0, 1) := by decide +kernel
theorem dM_begin_107 : decode bM_begin 107 = .ok (.getfield 25, 3) := by decide +kernel
theorem dM_begin_110 : decode bM_begin 110 = .ok (.iload_n 1, 1) := by decide +kernel
theorem dM_begin_111 : decode bM_begin 111 = .ok (.iaload, 1) := by decide +kernel
theorem dM_begin_112 : decode bM_begin 112 = .ok (.iadd, 1) := by decide +kernel
theorem dM_begin_113 : decode bM_begin 113 = .ok (.invokevirtual 130, 3) := by decide +kernel
theorem dM_begin_116 : decode bM_begin 116 = .ok (.aload_n 0, 1) := by decide +kernel
theorem dM_begin_117 : decode bM_begin 117 = .ok (.iconst 0, 1) := by decide +kernel
theorem dM_begin_118 : decode bM_begin 118 = .ok (.invokevirtual 130, 3) := by decide +kernel
theorem dM_begin_121 : decode bM_begin 121 = .ok (.return_, 1) := by decide +kernel
theorem dM_end_0 : decode bM_end 0 = .ok (.aload_n 0, 1) := by decide +kernel
theorem dM_end_1 : decode bM_end 1 = .ok (.iconst 0, 1) := by decide +kernel
theorem dM_end_2 : decode bM_end 2 = .ok (.invokevirtual 130, 3) := by decide +kernel
theorem dM_end_5 : decode bM_end 5 = .ok (.aload_n 0, 1) := by decide +kernel
theorem dM_end_6 : decode bM_end 6 = .ok (.dup, 1) := by decide +kernel
theorem dM_end_7 : decode bM_end 7 = .ok (.getfield 133, 3) := by decide +kernel
theorem dM_end_10 : decode bM_end 10 = .ok (.iconst 1, 1) := by decide +kernel
theorem dM_end_11 : decode bM_end 11 = .ok (.isub, 1) := by decide +kernel
theorem dM_end_12 : decode bM_end 12 = .ok (.putfield 133, 3) := by decide +kernel
theorem dM_end_15 : decode bM_end 15 = .ok (.aload_n 0, 1) := by decide +kernel
theorem dM_end_16 : decode bM_end 16 = .ok (.getfield 41, 3) := by decide +kernel
theorem dM_end_19 : decode bM_end 19 = .ok (.aload_n 0, 1) := by decide +kernel
theorem dM_end_20 : decode bM_end 20 = .ok (.getfield 133, 3) := by decide +kernel
theorem dM_end_23 : decode bM_end 23 = .ok (.iaload, 1) := by decide +kernel
theorem dM_end_24 : decode bM_end 24 = .ok (.istore_n 1, 1) := by decide +kernel
theorem dM_end_25 : decode bM_end 25 = .ok (.aload_n 0, 1) := by decide +kernel
end
section
/-! decode rows of class PropertyDocumentsModel: laid by wip/gen/names.py -/
theorem dM_end_26 : decode bM_end 26 = .ok (.getfield 121, 3) := by decide +kernel
theorem dM_end_29 : decode bM_end 29 = .ok (.iload_n 1, 1) := by decide +kernel
theorem dM_end_30 : decode bM_end 30 = .ok (.isub, 1) := by decide +kernel
theorem dM_end_31 : decode bM_end 31 = .ok (.istore_n 2, 1) := by decide +kernel
theorem dM_end_32 : decode bM_end 32 = .ok (.aload_n 0, 1) := by decide +kernel
theorem dM_end_33 : decode bM_end 33 = .ok (.getfield 35, 3) := by decide +kernel
theorem dM_end_36 : decode bM_end 36 = .ok (.iload_n 1, 1) := by decide +kernel
theorem dM_end_37 : decode bM_end 37 = .ok (.iload_n 2, 1) := by decide +kernel
theorem dM_end_38 : decode bM_end 38 = .ok (.sipush 255, 3) := by decide +kernel
theorem dM_end_41 : decode bM_end 41 = .ok (.iand, 1) := by decide +kernel
theorem dM_end_42 : decode bM_end 42 = .ok (.iastore, 1) := by decide +kernel
theorem dM_end_43 : decode bM_end 43 = .ok (.aload_n 0, 1) := by decide +kernel
theorem dM_end_44 : decode bM_end 44 = .ok (.getfield 35, 3) := by decide +kernel
theorem dM_end_47 : decode bM_end 47 = .ok (.iload_n 1, 1) := by decide +kernel
theorem dM_end_48 : decode bM_end 48 = .ok (.iconst 1, 1) := by decide +kernel
theorem dM_end_49 : decode bM_end 49 = .ok (.iadd, 1) := by decide +kernel
theorem dM_end_50 : decode bM_end 50 = .ok (.iload_n 2, 1) := by decide +kernel
theorem dM_end_51 : decode bM_end 51 = .ok (.bipush 8, 2) := by decide +kernel
theorem dM_end_53 : decode bM_end 53 = .ok (.ishr, 1) := by decide +kernel
theorem dM_end_54 : decode bM_end 54 = .ok (.iastore, 1) := by decide +kernel
theorem dM_end_55 : decode bM_end 55 = .ok (.aload_n 0, 1) := by decide +kernel
theorem dM_end_56 : decode bM_end 56 = .ok (.getfield 35, 3) := by decide +kernel
theorem dM_end_59 : decode bM_end 59 = .ok (.iload_n 1, 1) := by decide +kernel
theorem dM_end_60 : decode bM_end 60 = .ok (.iconst 2, 1) := by decide +kernel
theorem dM_end_61 : decode bM_end 61 = .ok (.iadd, 1) := by decide +kernel
theorem dM_end_62 : decode bM_end 62 = .ok (.iconst 0, 1) := by decide +kernel
theorem dM_end_63 : decode bM_end 63 = .ok (.iastore, 1) := by decide +kernel
theorem dM_end_64 : decode bM_end 64 = .ok (.aload_n 0, 1) := by decide +kernel
theorem dM_end_65 : decode bM_end 65 = .ok (.getfield 35, 3) := by decide +kernel
theorem dM_end_68 : decode bM_end 68 = .ok (.iload_n 1, 1) := by decide +kernel
theorem dM_end_69 : decode bM_end 69 = .ok (.iconst 3, 1) := by decide +kernel
theorem dM_end_70 : decode bM_end 70 = .ok (.iadd, 1) := by decide +kernel
theorem dM_end_71 : decode bM_end 71 = .ok (.iconst 0, 1) := by decide +kernel
theorem dM_end_72 : decode bM_end 72 = .ok (.iastore, 1) := by decide +kernel
theorem dM_end_73 : decode bM_end 73 = .ok (.return_, 1) := by decide +kernel
theorem dM_element_0 : decode bM_element 0 = .ok (.aload_n 0, 1) := by decide +kernel
theorem dM_element_1 : decode bM_element 1 = .ok (.getfield 28, 3) := by decide +kernel
theorem dM_element_4 : decode bM_element 4 = .ok (.bipush 8, 2) := by decide +kernel
theorem dM_element_6 : decode bM_element 6 = .ok (.iload_n 1, 1) := by decide +kernel
theorem dM_element_7 : decode bM_element 7 = .ok (.imul, 1) := by decide +kernel
theorem dM_element_8 : decode bM_element 8 = .ok (.iload_n 2, 1) := by decide +kernel
theorem dM_element_9 : decode bM_element 9 = .ok (.iadd, 1) := by decide +kernel
theorem dM_element_10 : decode bM_element 10 = .ok (.laload, 1) := by decide +kernel
theorem dM_element_11 : decode bM_element 11 = .ok (.lstore_n 3, 1) := by decide +kernel
theorem dM_element_12 : decode bM_element 12 = .ok (.aload_n 0, 1) := by decide +kernel
theorem dM_element_13 : decode bM_element 13 = .ok (.getfield 19, 3) := by decide +kernel
theorem dM_element_16 : decode bM_element 16 = .ok (.iload_n 2, 1) := by decide +kernel
theorem dM_element_17 : decode bM_element 17 = .ok (.iaload, 1) := by decide +kernel
theorem dM_element_18 : decode bM_element 18 = .ok (.iconst 3, 1) := by decide +kernel
theorem dM_element_19 : decode bM_element 19 = .ok (.if_icmp .ne 13, 3) := by decide +kernel
theorem dM_element_22 : decode bM_element 22 = .ok (.lload_n 3, 1) := by decide +kernel
theorem dM_element_23 : decode bM_element 23 = .ok (.lconst 0, 1) := by decide +kernel
theorem dM_element_24 : decode bM_element 24 = .ok (.lcmp, 1) := by decide +kernel
theorem dM_element_25 : decode bM_element 25 = .ok (.ifCond .ge 7, 3) := by decide +kernel
theorem dM_element_28 : decode bM_element 28 = .ok (.iconst 1, 1) := by decide +kernel
theorem dM_element_29 : decode bM_element 29 = .ok (.goto 4, 3) := by decide +kernel
theorem dM_element_32 : decode bM_element 32 = .ok (.iconst 0, 1) := by decide +kernel
theorem dM_element_33 : decode bM_element 33 = .ok (.istore 5, 2) := by decide +kernel
theorem dM_element_35 : decode bM_element 35 = .ok (.aload_n 0, 1) := by decide +kernel
theorem dM_element_36 : decode bM_element 36 = .ok (.aload_n 0, 1) := by decide +kernel
theorem dM_element_37 : decode bM_element 37 = .ok (.getfield 19, 3) := by decide +kernel
theorem dM_element_40 : decode bM_element 40 = .ok (.iload_n 2, 1) := by decide +kernel
theorem dM_element_41 : decode bM_element 41 = .ok (.iaload, 1) := by decide +kernel
theorem dM_element_42 : decode bM_element 42 = .ok (.ifCond .ne 8, 3) := by decide +kernel
theorem dM_element_45 : decode bM_element 45 = .ok (.bipush 16, 2) := by decide +kernel
theorem dM_element_47 : decode bM_element 47 = .ok (.goto 44, 3) := by decide +kernel
theorem dM_element_50 : decode bM_element 50 = .ok (.aload_n 0, 1) := by decide +kernel
theorem dM_element_51 : decode bM_element 51 = .ok (.getfield 19, 3) := by decide +kernel
theorem dM_element_54 : decode bM_element 54 = .ok (.iload_n 2, 1) := by decide +kernel
theorem dM_element_55 : decode bM_element 55 = .ok (.iaload, 1) := by decide +kernel
theorem dM_element_56 : decode bM_element 56 = .ok (.iconst 1, 1) := by decide +kernel
theorem dM_element_57 : decode bM_element 57 = .ok (.if_icmp .ne 8, 3) := by decide +kernel
theorem dM_element_60 : decode bM_element 60 = .ok (.bipush 18, 2) := by decide +kernel
theorem dM_element_62 : decode bM_element 62 = .ok (.goto 29, 3) := by decide +kernel
theorem dM_element_65 : decode bM_element 65 = .ok (.aload_n 0, 1) := by decide +kernel
theorem dM_element_66 : decode bM_element 66 = .ok (.getfield 19, 3) := by decide +kernel
theorem dM_element_69 : decode bM_element 69 = .ok (.iload_n 2, 1) := by decide +kernel
theorem dM_element_70 : decode bM_element 70 = .ok (.iaload, 1) := by decide +kernel
theorem dM_element_71 : decode bM_element 71 = .ok (.iconst 2, 1) := by decide +kernel
theorem dM_element_72 : decode bM_element 72 = .ok (.if_icmp .ne 8, 3) := by decide +kernel
theorem dM_element_75 : decode bM_element 75 = .ok (.bipush 8, 2) := by decide +kernel
theorem dM_element_77 : decode bM_element 77 = .ok (.goto 14, 3) := by decide +kernel
theorem dM_element_80 : decode bM_element 80 = .ok (.iload 5, 2) := by decide +kernel
theorem dM_element_82 : decode bM_element 82 = .ok (.ifCond .eq 8, 3) := by decide +kernel
theorem dM_element_85 : decode bM_element 85 = .ok (.bipush 10, 2) := by decide +kernel
theorem dM_element_87 : decode bM_element 87 = .ok (.goto 4, 3) := by decide +kernel
theorem dM_element_90 : decode bM_element 90 = .ok (.iconst 3, 1) := by decide +kernel
theorem dM_element_91 : decode bM_element 91 = .ok (.invokevirtual 130, 3) := by decide +kernel
theorem dM_element_94 : decode bM_element 94 = .ok (.aload_n 0, 1) := by decide +kernel
theorem dM_element_95 : decode bM_element 95 = .ok (.bipush 97, 2) := by decide +kernel
theorem dM_element_97 : decode bM_element 97 = .ok (.aload_n 0, 1) := by decide +kernel
theorem dM_element_98 : decode bM_element 98 = .ok (.getfield 16, 3) := by decide +kernel
theorem dM_element_101 : decode bM_element 101 = .ok (.iload_n 2, 1) := by decide +kernel
theorem dM_element_102 : decode bM_element 102 = .ok (.iaload, 1) := by decide +kernel
theorem dM_element_103 : decode bM_element 103 = .ok (.iadd, 1) := by decide +kernel
theorem dM_element_104 : decode bM_element 104 = .ok (.invokevirtual 130, 3) := by decide +kernel
theorem dM_element_107 : decode bM_element 107 = .ok (.aload_n 0, 1) := by decide +kernel
theorem dM_element_108 : decode bM_element 108 = .ok (.iconst 0, 1) := by decide +kernel
theorem dM_element_109 : decode bM_element 109 = .ok (.invokevirtual 130, 3) := by decide +kernel
theorem dM_element_112 : decode bM_element 112 = .ok (.aload_n 0, 1) := by decide +kernel
theorem dM_element_113 : decode bM_element 113 = .ok (.getfield 19, 3) := by decide +kernel
theorem dM_element_116 : decode bM_element 116 = .ok (.iload_n 2, 1) := by decide +kernel
theorem dM_element_117 : decode bM_element 117 = .ok (.iaload, 1) := by decide +kernel
theorem dM_element_118 : decode bM_element 118 = .ok (.iconst 3, 1) := by decide +kernel
theorem dM_element_119 : decode bM_element 119 = .ok (.if_icmp .ne 23, 3) := by decide +kernel
theorem dM_element_122 : decode bM_element 122 = .ok (.iload 5, 2) := by decide +kernel
theorem dM_element_124 : decode bM_element 124 = .ok (.ifCond .ne 52, 3) := by decide +kernel
theorem dM_element_127 : decode bM_element 127 = .ok (.aload_n 0, 1) := by decide +kernel
theorem dM_element_128 : decode bM_element 128 = .ok (.lload_n 3, 1) := by decide +kernel
theorem dM_element_129 : decode bM_element 129 = .ok (.l2i, 1) := by decide +kernel
theorem dM_element_130 : decode bM_element 130 = .ok (.aload_n 0, 1) := by decide +kernel
theorem dM_element_131 : decode bM_element 131 = .ok (.getfield 22, 3) := by decide +kernel
theorem dM_element_134 : decode bM_element 134 = .ok (.iload_n 2, 1) := by decide +kernel
theorem dM_element_135 : decode bM_element 135 = .ok (.iaload, 1) := by decide +kernel
theorem dM_element_136 : decode bM_element 136 = .ok (.invokevirtual 142, 3) := by decide +kernel
theorem dM_element_139 : decode bM_element 139 = .ok (.goto 37, 3) := by decide +kernel
theorem dM_element_142 : decode bM_element 142 = .ok (.aload_n 0, 1) := by decide +kernel
theorem dM_element_143 : decode bM_element 143 = .ok (.lload_n 3, 1) := by decide +kernel
theorem dM_element_144 : decode bM_element 144 = .ok (.aload_n 0, 1) := by decide +kernel
theorem dM_element_145 : decode bM_element 145 = .ok (.getfield 19, 3) := by decide +kernel
theorem dM_element_148 : decode bM_element 148 = .ok (.iload_n 2, 1) := by decide +kernel
theorem dM_element_149 : decode bM_element 149 = .ok (.iaload, 1) := by decide +kernel
theorem dM_element_150 : decode bM_element 150 = .ok (.ifCond .ne 7, 3) := by decide +kernel
theorem dM_element_153 : decode bM_element 153 = .ok (.iconst 4, 1) := by decide +kernel
theorem dM_element_154 : decode bM_element 154 = .ok (.goto 19, 3) := by decide +kernel
theorem dM_element_157 : decode bM_element 157 = .ok (.aload_n 0, 1) := by decide +kernel
theorem dM_element_158 : decode bM_element 158 = .ok (.getfield 19, 3) := by decide +kernel
theorem dM_element_161 : decode bM_element 161 = .ok (.iload_n 2, 1) := by decide +kernel
theorem dM_element_162 : decode bM_element 162 = .ok (.iaload, 1) := by decide +kernel
theorem dM_element_163 : decode bM_element 163 = .ok (.iconst 1, 1) := by decide +kernel
theorem dM_element_164 : decode bM_element 164 = .ok (.if_icmp .ne 8, 3) := by decide +kernel
theorem dM_element_167 : decode bM_element 167 = .ok (.bipush 8, 2) := by decide +kernel
theorem dM_element_169 : decode bM_element 169 = .ok (.goto 4, 3) := by decide +kernel
theorem dM_element_172 : decode bM_element 172 = .ok (.iconst 1, 1) := by decide +kernel
theorem dM_element_173 : decode bM_element 173 = .ok (.invokevirtual 136, 3) := by decide +kernel
theorem dM_element_176 : decode bM_element 176 = .ok (.return_, 1) := by decide +kernel
theorem dM_encode_0 : decode bM_encode 0 = .ok (.aload_n 0, 1) := by decide +kernel
theorem dM_encode_1 : decode bM_encode 1 = .ok (.iload_n 1, 1) := by decide +kernel
theorem dM_encode_2 : decode bM_encode 2 = .ok (.invokevirtual 111, 3) := by decide +kernel
theorem dM_encode_5 : decode bM_encode 5 = .ok (.ifCond .eq 25, 3) := by decide +kernel
theorem dM_encode_8 : decode bM_encode 8 = .ok (.aload_n 0, 1) := by decide +kernel
theorem dM_encode_9 : decode bM_encode 9 = .ok (.iload_n 2, 1) := by decide +kernel
theorem dM_encode_10 : decode bM_encode 10 = .ok (.invokevirtual 94, 3) := by decide +kernel
theorem dM_encode_13 : decode bM_encode 13 = .ok (.ifCond .eq 17, 3) := by decide +kernel
theorem dM_encode_16 : decode bM_encode 16 = .ok (.aload_n 0, 1) := by decide +kernel
theorem dM_encode_17 : decode bM_encode 17 = .ok (.aload_n 0, 1) := by decide +kernel
theorem dM_encode_18 : decode bM_encode 18 = .ok (.getfield 25, 3) := by decide +kernel
theorem dM_encode_21 : decode bM_encode 21 = .ok (.iload_n 1, 1) := by decide +kernel
theorem dM_encode_22 : decode bM_encode 22 = .ok (.iaload, 1) := by decide +kernel
theorem dM_encode_23 : decode bM_encode 23 = .ok (.iload_n 2, 1) := by decide +kernel
theorem dM_encode_24 : decode bM_encode 24 = .ok (.invokevirtual 84, 3) := by decide +kernel
theorem dM_encode_27 : decode bM_encode 27 = .ok (.ifCond .ne 5, 3) := by decide +kernel
theorem dM_encode_30 : decode bM_encode 30 = .ok (.iconst (-1), 1) := by decide +kernel
theorem dM_encode_31 : decode bM_encode 31 = .ok (.ireturn, 1) := by decide +kernel
theorem dM_encode_32 : decode bM_encode 32 = .ok (.aload_n 0, 1) := by decide +kernel
theorem dM_encode_33 : decode bM_encode 33 = .ok (.iconst 0, 1) := by decide +kernel
theorem dM_encode_34 : decode bM_encode 34 = .ok (.putfield 121, 3) := by decide +kernel
theorem dM_encode_37 : decode bM_encode 37 = .ok (.aload_n 0, 1) := by decide +kernel
theorem dM_encode_38 : decode bM_encode 38 = .ok (.iconst 0, 1) := by decide +kernel
theorem dM_encode_39 : decode bM_encode 39 = .ok (.putfield 124, 3) := by decide +kernel
theorem dM_encode_42 : decode bM_encode 42 = .ok (.aload_n 0, 1) := by decide +kernel
theorem dM_encode_43 : decode bM_encode 43 = .ok (.iconst 0, 1) := by decide +kernel
theorem dM_encode_44 : decode bM_encode 44 = .ok (.putfield 133, 3) := by decide +kernel
theorem dM_encode_47 : decode bM_encode 47 = .ok (.aload_n 0, 1) := by decide +kernel
theorem dM_encode_48 : decode bM_encode 48 = .ok (.iload_n 1, 1) := by decide +kernel
theorem dM_encode_49 : decode bM_encode 49 = .ok (.iload_n 2, 1) := by decide +kernel
theorem dM_encode_50 : decode bM_encode 50 = .ok (.invokevirtual 142, 3) := by decide +kernel
theorem dM_encode_53 : decode bM_encode 53 = .ok (.aload_n 0, 1) := by decide +kernel
theorem dM_encode_54 : decode bM_encode 54 = .ok (.getfield 133, 3) := by decide +kernel
theorem dM_encode_57 : decode bM_encode 57 = .ok (.ifCond .le 77, 3) := by decide +kernel
theorem dM_encode_60 : decode bM_encode 60 = .ok (.aload_n 0, 1) := by decide +kernel
theorem dM_encode_61 : decode bM_encode 61 = .ok (.getfield 124, 3) := by decide +kernel
theorem dM_encode_64 : decode bM_encode 64 = .ok (.ifCond .ne 70, 3) := by decide +kernel
theorem dM_encode_67 : decode bM_encode 67 = .ok (.aload_n 0, 1) := by decide +kernel
theorem dM_encode_68 : decode bM_encode 68 = .ok (.getfield 133, 3) := by decide +kernel
theorem dM_encode_71 : decode bM_encode 71 = .ok (.iconst 1, 1) := by decide +kernel
theorem dM_encode_72 : decode bM_encode 72 = .ok (.isub, 1) := by decide +kernel
theorem dM_encode_73 : decode bM_encode 73 = .ok (.istore_n 3, 1) := by decide +kernel
theorem dM_encode_74 : decode bM_encode 74 = .ok (.aload_n 0, 1) := by decide +kernel
theorem dM_encode_75 : decode bM_encode 75 = .ok (.aload_n 0, 1) := by decide +kernel
theorem dM_encode_76 : decode bM_encode 76 = .ok (.getfield 25, 3) := by decide +kernel
theorem dM_encode_79 : decode bM_encode 79 = .ok (.aload_n 0, 1) := by decide +kernel
theorem dM_encode_80 : decode bM_encode 80 = .ok (.getfield 38, 3) := by decide +kernel
theorem dM_encode_83 : decode bM_encode 83 = .ok (.iload_n 3, 1) := by decide +kernel
theorem dM_encode_84 : decode bM_encode 84 = .ok (.iaload, 1) := by decide +kernel
theorem dM_encode_85 : decode bM_encode 85 = .ok (.iaload, 1) := by decide +kernel
theorem dM_encode_86 : decode bM_encode 86 = .ok (.aload_n 0, 1) := by decide +kernel
theorem dM_encode_87 : decode bM_encode 87 = .ok (.getfield 44, 3) := by decide +kernel
theorem dM_encode_90 : decode bM_encode 90 = .ok (.iload_n 3, 1) := by decide +kernel
theorem dM_encode_91 : decode bM_encode 91 = .ok (.iaload, 1) := by decide +kernel
theorem dM_encode_92 : decode bM_encode 92 = .ok (.invokevirtual 146, 3) := by decide +kernel
theorem dM_encode_95 : decode bM_encode 95 = .ok (.istore 4, 2) := by decide +kernel
theorem dM_encode_97 : decode bM_encode 97 = .ok (.aload_n 0, 1) := by decide +kernel
theorem dM_encode_98 : decode bM_encode 98 = .ok (.getfield 44, 3) := by decide +kernel
theorem dM_encode_101 : decode bM_encode 101 = .ok (.iload_n 3, 1) := by decide +kernel
theorem dM_encode_102 : decode bM_encode 102 = .ok (.dup2, 1) := by decide +kernel
theorem dM_encode_103 : decode bM_encode 103 = .ok (.iaload, 1) := by decide +kernel
theorem dM_encode_104 : decode bM_encode 104 = .ok (.iconst 1, 1) := by decide +kernel
theorem dM_encode_105 : decode bM_encode 105 = .ok (.iadd, 1) := by decide +kernel
theorem dM_encode_106 : decode bM_encode 106 = .ok (.iastore, 1) := by decide +kernel
theorem dM_encode_107 : decode bM_encode 107 = .ok (.iload 4, 2) := by decide +kernel
theorem dM_encode_109 : decode bM_encode 109 = .ok (.ifCond .ge 10, 3) := by decide +kernel
theorem dM_encode_112 : decode bM_encode 112 = .ok (.aload_n 0, 1) := by decide +kernel
theorem dM_encode_113 : decode bM_encode 113 = .ok (.invokevirtual 149, 3) := by decide +kernel
theorem dM_encode_116 : decode bM_encode 116 = .ok (.goto 15, 3) := by decide +kernel
theorem dM_encode_119 : decode bM_encode 119 = .ok (.aload_n 0, 1) := by decide +kernel
theorem dM_encode_120 : decode bM_encode 120 = .ok (.aload_n 0, 1) := by decide +kernel
theorem dM_encode_121 : decode bM_encode 121 = .ok (.getfield 38, 3) := by decide +kernel
theorem dM_encode_124 : decode bM_encode 124 = .ok (.iload_n 3, 1) := by decide +kernel
theorem dM_encode_125 : decode bM_encode 125 = .ok (.iaload, 1) := by decide +kernel
theorem dM_encode_126 : decode bM_encode 126 = .ok (.iload 4, 2) := by decide +kernel
theorem dM_encode_128 : decode bM_encode 128 = .ok (.invokevirtual 152, 3) := by decide +kernel
theorem dM_encode_131 : decode bM_encode 131 = .ok (.goto (-78), 3) := by decide +kernel
theorem dM_encode_134 : decode bM_encode 134 = .ok (.aload_n 0, 1) := by decide +kernel
theorem dM_encode_135 : decode bM_encode 135 = .ok (.getfield 124, 3) := by decide +kernel
theorem dM_encode_138 : decode bM_encode 138 = .ok (.ifCond .eq 6, 3) := by decide +kernel
theorem dM_encode_141 : decode bM_encode 141 = .ok (.bipush (-2), 2) := by decide +kernel
theorem dM_encode_143 : decode bM_encode 143 = .ok (.ireturn, 1) := by decide +kernel
theorem dM_encode_144 : decode bM_encode 144 = .ok (.aload_n 0, 1) := by decide +kernel
theorem dM_encode_145 : decode bM_encode 145 = .ok (.aload_n 0, 1) := by decide +kernel
theorem dM_encode_146 : decode bM_encode 146 = .ok (.getfield 121, 3) := by decide +kernel
theorem dM_encode_149 : decode bM_encode 149 = .ok (.putfield 155, 3) := by decide +kernel
theorem dM_encode_152 : decode bM_encode 152 = .ok (.iconst 0, 1) := by decide +kernel
theorem dM_encode_153 : decode bM_encode 153 = .ok (.istore_n 3, 1) := by decide +kernel
theorem dM_encode_154 : decode bM_encode 154 = .ok (.iload_n 3, 1) := by decide +kernel
theorem dM_encode_155 : decode bM_encode 155 = .ok (.aload_n 0, 1) := by decide +kernel
theorem dM_encode_156 : decode bM_encode 156 = .ok (.getfield 121, 3) := by decide +kernel
theorem dM_encode_159 : decode bM_encode 159 = .ok (.if_icmp .ge 21, 3) := by decide +kernel
theorem dM_encode_162 : decode bM_encode 162 = .ok (.aload_n 0, 1) := by decide +kernel
theorem dM_encode_163 : decode bM_encode 163 = .ok (.getfield 32, 3) := by decide +kernel
theorem dM_encode_166 : decode bM_encode 166 = .ok (.iload_n 3, 1) := by decide +kernel
theorem dM_encode_167 : decode bM_encode 167 = .ok (.aload_n 0, 1) := by decide +kernel
theorem dM_encode_168 : decode bM_encode 168 = .ok (.getfield 35, 3) := by decide +kernel
theorem dM_encode_171 : decode bM_encode 171 = .ok (.iload_n 3, 1) := by decide +kernel
theorem dM_encode_172 : decode bM_encode 172 = .ok (.iaload, 1) := by decide +kernel
theorem dM_encode_173 : decode bM_encode 173 = .ok (.iastore, 1) := by decide +kernel
theorem dM_encode_174 : decode bM_encode 174 = .ok (.iinc 3 1, 3) := by decide +kernel
theorem dM_encode_177 : decode bM_encode 177 = .ok (.goto (-23), 3) := by decide +kernel
theorem dM_encode_180 : decode bM_encode 180 = .ok (.aload_n 0, 1) := by decide +kernel
theorem dM_encode_181 : decode bM_encode 181 = .ok (.getfield 155, 3) := by decide +kernel
theorem dM_encode_184 : decode bM_encode 184 = .ok (.ireturn, 1) := by decide +kernel
theorem dM_next_0 : decode bM_next 0 = .ok (.aload_n 0, 1) := by decide +kernel
theorem dM_next_1 : decode bM_next 1 = .ok (.getfield 158, 3) := by decide +kernel
theorem dM_next_4 : decode bM_next 4 = .ok (.aload_n 0, 1) := by decide +kernel
theorem dM_next_5 : decode bM_next 5 = .ok (.getfield 155, 3) := by decide +kernel
theorem dM_next_8 : decode bM_next 8 = .ok (.if_icmp .lt 10, 3) := by decide +kernel
theorem dM_next_11 : decode bM_next 11 = .ok (.aload_n 0, 1) := by decide +kernel
theorem dM_next_12 : decode bM_next 12 = .ok (.iconst 1, 1) := by decide +kernel
theorem dM_next_13 : decode bM_next 13 = .ok (.putfield 161, 3) := by decide +kernel
theorem dM_next_16 : decode bM_next 16 = .ok (.iconst 0, 1) := by decide +kernel
theorem dM_next_17 : decode bM_next 17 = .ok (.ireturn, 1) := by decide +kernel
theorem dM_next_18 : decode bM_next 18 = .ok (.aload_n 0, 1) := by decide +kernel
theorem dM_next_19 : decode bM_next 19 = .ok (.dup, 1) := by decide +kernel
theorem dM_next_20 : decode bM_next 20 = .ok (.getfield 158, 3) := by decide +kernel
theorem dM_next_23 : decode bM_next 23 = .ok (.iconst 1, 1) := by decide +kernel
theorem dM_next_24 : decode bM_next 24 = .ok (.iadd, 1) := by decide +kernel
theorem dM_next_25 : decode bM_next 25 = .ok (.putfield 158, 3) := by decide +kernel
theorem dM_next_28 : decode bM_next 28 = .ok (.aload_n 0, 1) := by decide +kernel
theorem dM_next_29 : decode bM_next 29 = .ok (.getfield 32, 3) := by decide +kernel
theorem dM_next_32 : decode bM_next 32 = .ok (.aload_n 0, 1) := by decide +kernel
theorem dM_next_33 : decode bM_next 33 = .ok (.getfield 158, 3) := by decide +kernel
theorem dM_next_36 : decode bM_next 36 = .ok (.iconst 1, 1) := by decide +kernel
theorem dM_next_37 : decode bM_next 37 = .ok (.isub, 1) := by decide +kernel
theorem dM_next_38 : decode bM_next 38 = .ok (.iaload, 1) := by decide +kernel
theorem dM_next_39 : decode bM_next 39 = .ok (.ireturn, 1) := by decide +kernel
theorem dM_number_0 : decode bM_number 0 = .ok (.aload_n 0, 1) := by decide +kernel
theorem dM_number_1 : decode bM_number 1 = .ok (.getfield 32, 3) := by decide +kernel
theorem dM_number_4 : decode bM_number 4 = .ok (.iload_n 1, 1) := by decide +kernel
theorem dM_number_5 : decode bM_number 5 = .ok (.iaload, 1) := by decide +kernel
theorem dM_number_6 : decode bM_number 6 = .ok (.aload_n 0, 1) := by decide +kernel
theorem dM_number_7 : decode bM_number 7 = .ok (.getfield 32, 3) := by decide +kernel
theorem dM_number_10 : decode bM_number 10 = .ok (.iload_n 1, 1) := by decide +kernel
theorem dM_number_11 : decode bM_number 11 = .ok (.iconst 1, 1) := by decide +kernel
theorem dM_number_12 : decode bM_number 12 = .ok (.iadd, 1) := by decide +kernel
theorem dM_number_13 : decode bM_number 13 = .ok (.iaload, 1) := by decide +kernel
theorem dM_number_14 : decode bM_number 14 = .ok (.bipush 8, 2) := by decide +kernel
theorem dM_number_16 : decode bM_number 16 = .ok (.ishl, 1) := by decide +kernel
theorem dM_number_17 : decode bM_number 17 = .ok (.ior, 1) := by decide +kernel
theorem dM_number_18 : decode bM_number 18 = .ok (.aload_n 0, 1) := by decide +kernel
theorem dM_number_19 : decode bM_number 19 = .ok (.getfield 32, 3) := by decide +kernel
theorem dM_number_22 : decode bM_number 22 = .ok (.iload_n 1, 1) := by decide +kernel
theorem dM_number_23 : decode bM_number 23 = .ok (.iconst 2, 1) := by decide +kernel
theorem dM_number_24 : decode bM_number 24 = .ok (.iadd, 1) := by decide +kernel
theorem dM_number_25 : decode bM_number 25 = .ok (.iaload, 1) := by decide +kernel
theorem dM_number_26 : decode bM_number 26 = .ok (.bipush 16, 2) := by decide +kernel
theorem dM_number_28 : decode bM_number 28 = .ok (.ishl, 1) := by decide +kernel
theorem dM_number_29 : decode bM_number 29 = .ok (.ior, 1) := by decide +kernel
theorem dM_number_30 : decode bM_number 30 = .ok (.aload_n 0, 1) := by decide +kernel
theorem dM_number_31 : decode bM_number 31 = .ok (.getfield 32, 3) := by decide +kernel
theorem dM_number_34 : decode bM_number 34 = .ok (.iload_n 1, 1) := by decide +kernel
theorem dM_number_35 : decode bM_number 35 = .ok (.iconst 3, 1) := by decide +kernel
theorem dM_number_36 : decode bM_number 36 = .ok (.iadd, 1) := by decide +kernel
theorem dM_number_37 : decode bM_number 37 = .ok (.iaload, 1) := by decide +kernel
theorem dM_number_38 : decode bM_number 38 = .ok (.bipush 24, 2) := by decide +kernel
theorem dM_number_40 : decode bM_number 40 = .ok (.ishl, 1) := by decide +kernel
theorem dM_number_41 : decode bM_number 41 = .ok (.ior, 1) := by decide +kernel
theorem dM_number_42 : decode bM_number 42 = .ok (.ireturn, 1) := by decide +kernel
theorem dM_skip_0 : decode bM_skip 0 = .ok (.iconst 0, 1) := by decide +kernel
theorem dM_skip_1 : decode bM_skip 1 = .ok (.istore_n 2, 1) := by decide +kernel
theorem dM_skip_2 : decode bM_skip 2 = .ok (.iload_n 2, 1) := by decide +kernel
theorem dM_skip_3 : decode bM_skip 3 = .ok (.iload_n 1, 1) := by decide +kernel
theorem dM_skip_4 : decode bM_skip 4 = .ok (.if_icmp .ge 14, 3) := by decide +kernel
theorem dM_skip_7 : decode bM_skip 7 = .ok (.aload_n 0, 1) := by decide +kernel
theorem dM_skip_8 : decode bM_skip 8 = .ok (.invokevirtual 164, 3) := by decide +kernel
theorem dM_skip_11 : decode bM_skip 11 = .ok (.pop, 1) := by decide +kernel
theorem dM_skip_12 : decode bM_skip 12 = .ok (.iinc 2 1, 3) := by decide +kernel
theorem dM_skip_15 : decode bM_skip 15 = .ok (.goto (-13), 3) := by decide +kernel
theorem dM_skip_18 : decode bM_skip 18 = .ok (.return_, 1) := by decide +kernel
theorem dM_line_0 : decode bM_line 0 = .ok (.iconst 0, 1) := by decide +kernel
theorem dM_line_1 : decode bM_line 1 = .ok (.istore_n 1, 1) := by decide +kernel
theorem dM_line_2 : decode bM_line 2 = .ok (.aload_n 0, 1) := by decide +kernel
theorem dM_line_3 : decode bM_line 3 = .ok (.invokevirtual 164, 3) := by decide +kernel
theorem dM_line_6 : decode bM_line 6 = .ok (.istore_n 2, 1) := by decide +kernel
theorem dM_line_7 : decode bM_line 7 = .ok (.iload_n 2, 1) := by decide +kernel
theorem dM_line_8 : decode bM_line 8 = .ok (.ifCond .le 43, 3) := by decide +kernel
theorem dM_line_11 : decode bM_line 11 = .ok (.aload_n 0, 1) := by decide +kernel
theorem dM_line_12 : decode bM_line 12 = .ok (.getfield 161, 3) := by decide +kernel
theorem dM_line_15 : decode bM_line 15 = .ok (.ifCond .ne 36, 3) := by decide +kernel
theorem dM_line_18 : decode bM_line 18 = .ok (.aload_n 0, 1) := by decide +kernel
theorem dM_line_19 : decode bM_line 19 = .ok (.aload_n 0, 1) := by decide +kernel
theorem dM_line_20 : decode bM_line 20 = .ok (.getfield 161, 3) := by decide +kernel
theorem dM_line_23 : decode bM_line 23 = .ok (.ifCond .ne 9, 3) := by decide +kernel
theorem dM_line_26 : decode bM_line 26 = .ok (.iload_n 2, 1) := by decide +kernel
theorem dM_line_27 : decode bM_line 27 = .ok (.bipush 127, 2) := by decide +kernel
theorem dM_line_29 : decode bM_line 29 = .ok (.if_icmp .le 7, 3) := by decide +kernel
theorem dM_line_32 : decode bM_line 32 = .ok (.iconst 1, 1) := by decide +kernel
theorem dM_line_33 : decode bM_line 33 = .ok (.goto 4, 3) := by decide +kernel
theorem dM_line_36 : decode bM_line 36 = .ok (.iconst 0, 1) := by decide +kernel
theorem dM_line_37 : decode bM_line 37 = .ok (.putfield 161, 3) := by decide +kernel
theorem dM_line_40 : decode bM_line 40 = .ok (.iinc 1 1, 3) := by decide +kernel
theorem dM_line_43 : decode bM_line 43 = .ok (.aload_n 0, 1) := by decide +kernel
theorem dM_line_44 : decode bM_line 44 = .ok (.invokevirtual 164, 3) := by decide +kernel
theorem dM_line_47 : decode bM_line 47 = .ok (.istore_n 2, 1) := by decide +kernel
theorem dM_line_48 : decode bM_line 48 = .ok (.goto (-41), 3) := by decide +kernel
theorem dM_line_51 : decode bM_line 51 = .ok (.iload_n 1, 1) := by decide +kernel
theorem dM_line_52 : decode bM_line 52 = .ok (.ireturn, 1) := by decide +kernel
theorem dM_isClass_0 : decode bM_isClass 0 = .ok (.iload_n 1, 1) := by decide +kernel
theorem dM_isClass_1 : decode bM_isClass 1 = .ok (.ifCond .lt 15, 3) := by decide +kernel
theorem dM_isClass_4 : decode bM_isClass 4 = .ok (.iload_n 1, 1) := by decide +kernel
theorem dM_isClass_5 : decode bM_isClass 5 = .ok (.aload_n 0, 1) := by decide +kernel
theorem dM_isClass_6 : decode bM_isClass 6 = .ok (.getfield 80, 3) := by decide +kernel
theorem dM_isClass_9 : decode bM_isClass 9 = .ok (.if_icmp .ge 7, 3) := by decide +kernel
theorem dM_isClass_12 : decode bM_isClass 12 = .ok (.iconst 1, 1) := by decide +kernel
theorem dM_isClass_13 : decode bM_isClass 13 = .ok (.goto 4, 3) := by decide +kernel
theorem dM_isClass_16 : decode bM_isClass 16 = .ok (.iconst 0, 1) := by decide +kernel
theorem dM_isClass_17 : decode bM_isClass 17 = .ok (.ireturn, 1) := by decide +kernel
theorem dM_readDocument_0 : decode bM_readDocument 0 = .ok (.aload_n 0, 1) := by decide +kernel
theorem dM_readDocument_1 : decode bM_readDocument 1 = .ok (.getfield 168, 3) := by decide +kernel
theorem dM_readDocument_4 : decode bM_readDocument 4 = .ok (.iconst 5, 1) := by decide +kernel
theorem dM_readDocument_5 : decode bM_readDocument 5 = .ok (.if_icmp .lt 9, 3) := by decide +kernel
theorem dM_readDocument_8 : decode bM_readDocument 8 = .ok (.aload_n 0, 1) := by decide +kernel
theorem dM_readDocument_9 : decode bM_readDocument 9 = .ok (.iconst 1, 1) := by decide +kernel
theorem dM_readDocument_10 : decode bM_readDocument 10 = .ok (.putfield 161, 3) := by decide +kernel
theorem dM_readDocument_13 : decode bM_readDocument 13 = .ok (.return_, 1) := by decide +kernel
theorem dM_readDocument_14 : decode bM_readDocument 14 = .ok (.aload_n 0, 1) := by decide +kernel
theorem dM_readDocument_15 : decode bM_readDocument 15 = .ok (.getfield 47, 3) := by decide +kernel
theorem dM_readDocument_18 : decode bM_readDocument 18 = .ok (.aload_n 0, 1) := by decide +kernel
theorem dM_readDocument_19 : decode bM_readDocument 19 = .ok (.getfield 171, 3) := by decide +kernel
theorem dM_readDocument_22 : decode bM_readDocument 22 = .ok (.aload_n 0, 1) := by decide +kernel
theorem dM_readDocument_23 : decode bM_readDocument 23 = .ok (.getfield 158, 3) := by decide +kernel
theorem dM_readDocument_26 : decode bM_readDocument 26 = .ok (.iastore, 1) := by decide +kernel
theorem dM_readDocument_27 : decode bM_readDocument 27 = .ok (.aload_n 0, 1) := by decide +kernel
theorem dM_readDocument_28 : decode bM_readDocument 28 = .ok (.iconst 4, 1) := by decide +kernel
theorem dM_readDocument_29 : decode bM_readDocument 29 = .ok (.invokevirtual 174, 3) := by decide +kernel
theorem dM_readDocument_32 : decode bM_readDocument 32 = .ok (.aload_n 0, 1) := by decide +kernel
theorem dM_readDocument_33 : decode bM_readDocument 33 = .ok (.getfield 50, 3) := by decide +kernel
theorem dM_readDocument_36 : decode bM_readDocument 36 = .ok (.aload_n 0, 1) := by decide +kernel
theorem dM_readDocument_37 : decode bM_readDocument 37 = .ok (.getfield 171, 3) := by decide +kernel
theorem dM_readDocument_40 : decode bM_readDocument 40 = .ok (.aload_n 0, 1) := by decide +kernel
theorem dM_readDocument_41 : decode bM_readDocument 41 = .ok (.getfield 168, 3) := by decide +kernel
theorem dM_readDocument_44 : decode bM_readDocument 44 = .ok (.iconst 1, 1) := by decide +kernel
theorem dM_readDocument_45 : decode bM_readDocument 45 = .ok (.iadd, 1) := by decide +kernel
theorem dM_readDocument_46 : decode bM_readDocument 46 = .ok (.iastore, 1) := by decide +kernel
theorem dM_readDocument_47 : decode bM_readDocument 47 = .ok (.aload_n 0, 1) := by decide +kernel
theorem dM_readDocument_48 : decode bM_readDocument 48 = .ok (.getfield 77, 3) := by decide +kernel
theorem dM_readDocument_51 : decode bM_readDocument 51 = .ok (.aload_n 0, 1) := by decide +kernel
theorem dM_readDocument_52 : decode bM_readDocument 52 = .ok (.getfield 168, 3) := by decide +kernel
theorem dM_readDocument_55 : decode bM_readDocument 55 = .ok (.aload_n 0, 1) := by decide +kernel
theorem dM_readDocument_56 : decode bM_readDocument 56 = .ok (.getfield 171, 3) := by decide +kernel
theorem dM_readDocument_59 : decode bM_readDocument 59 = .ok (.iastore, 1) := by decide +kernel
theorem dM_readDocument_60 : decode bM_readDocument 60 = .ok (.aload_n 0, 1) := by decide +kernel
theorem dM_readDocument_61 : decode bM_readDocument 61 = .ok (.dup, 1) := by decide +kernel
theorem dM_readDocument_62 : decode bM_readDocument 62 = .ok (.getfield 168, 3) := by decide +kernel
theorem dM_readDocument_65 : decode bM_readDocument 65 = .ok (.iconst 1, 1) := by decide +kernel
theorem dM_readDocument_66 : decode bM_readDocument 66 = .ok (.iadd, 1) := by decide +kernel
theorem dM_readDocument_67 : decode bM_readDocument 67 = .ok (.putfield 168, 3) := by decide +kernel
theorem dM_readDocument_70 : decode bM_readDocument 70 = .ok (.aload_n 0, 1) := by decide +kernel
theorem dM_readDocument_71 : decode bM_readDocument 71 = .ok (.dup, 1) := by decide +kernel
theorem dM_readDocument_72 : decode bM_readDocument 72 = .ok (.getfield 171, 3) := by decide +kernel
theorem dM_readDocument_75 : decode bM_readDocument 75 = .ok (.iconst 1, 1) := by decide +kernel
theorem dM_readDocument_76 : decode bM_readDocument 76 = .ok (.iadd, 1) := by decide +kernel
theorem dM_readDocument_77 : decode bM_readDocument 77 = .ok (.putfield 171, 3) := by decide +kernel
theorem dM_readDocument_80 : decode bM_readDocument 80 = .ok (.return_, 1) := by decide +kernel
theorem dM_readElement_0 : decode bM_readElement 0 = .ok (.aload_n 0, 1) := by decide +kernel
theorem dM_readElement_1 : decode bM_readElement 1 = .ok (.getfield 177, 3) := by decide +kernel
theorem dM_readElement_4 : decode bM_readElement 4 = .ok (.istore_n 2, 1) := by decide +kernel
theorem dM_readElement_5 : decode bM_readElement 5 = .ok (.aload_n 0, 1) := by decide +kernel
theorem dM_readElement_6 : decode bM_readElement 6 = .ok (.dup, 1) := by decide +kernel
theorem dM_readElement_7 : decode bM_readElement 7 = .ok (.getfield 177, 3) := by decide +kernel
theorem dM_readElement_10 : decode bM_readElement 10 = .ok (.iconst 1, 1) := by decide +kernel
theorem dM_readElement_11 : decode bM_readElement 11 = .ok (.iadd, 1) := by decide +kernel
theorem dM_readElement_12 : decode bM_readElement 12 = .ok (.putfield 177, 3) := by decide +kernel
theorem dM_readElement_15 : decode bM_readElement 15 = .ok (.aload_n 0, 1) := by decide +kernel
theorem dM_readElement_16 : decode bM_readElement 16 = .ok (.getfield 59, 3) := by decide +kernel
theorem dM_readElement_19 : decode bM_readElement 19 = .ok (.iload_n 2, 1) := by decide +kernel
theorem dM_readElement_20 : decode bM_readElement 20 = .ok (.aload_n 0, 1) := by decide +kernel
theorem dM_readElement_21 : decode bM_readElement 21 = .ok (.getfield 77, 3) := by decide +kernel
theorem dM_readElement_24 : decode bM_readElement 24 = .ok (.aload_n 0, 1) := by decide +kernel
theorem dM_readElement_25 : decode bM_readElement 25 = .ok (.getfield 168, 3) := by decide +kernel
theorem dM_readElement_28 : decode bM_readElement 28 = .ok (.iconst 1, 1) := by decide +kernel
theorem dM_readElement_29 : decode bM_readElement 29 = .ok (.isub, 1) := by decide +kernel
theorem dM_readElement_30 : decode bM_readElement 30 = .ok (.iaload, 1) := by decide +kernel
theorem dM_readElement_31 : decode bM_readElement 31 = .ok (.iastore, 1) := by decide +kernel
theorem dM_readElement_32 : decode bM_readElement 32 = .ok (.aload_n 0, 1) := by decide +kernel
theorem dM_readElement_33 : decode bM_readElement 33 = .ok (.getfield 62, 3) := by decide +kernel
theorem dM_readElement_36 : decode bM_readElement 36 = .ok (.iload_n 2, 1) := by decide +kernel
theorem dM_readElement_37 : decode bM_readElement 37 = .ok (.iload_n 1, 1) := by decide +kernel
theorem dM_readElement_38 : decode bM_readElement 38 = .ok (.iastore, 1) := by decide +kernel
theorem dM_readElement_39 : decode bM_readElement 39 = .ok (.aload_n 0, 1) := by decide +kernel
theorem dM_readElement_40 : decode bM_readElement 40 = .ok (.getfield 65, 3) := by decide +kernel
theorem dM_readElement_43 : decode bM_readElement 43 = .ok (.iload_n 2, 1) := by decide +kernel
theorem dM_readElement_44 : decode bM_readElement 44 = .ok (.aload_n 0, 1) := by decide +kernel
theorem dM_readElement_45 : decode bM_readElement 45 = .ok (.getfield 158, 3) := by decide +kernel
theorem dM_readElement_48 : decode bM_readElement 48 = .ok (.iastore, 1) := by decide +kernel
theorem dM_readElement_49 : decode bM_readElement 49 = .ok (.aload_n 0, 1) := by decide +kernel
theorem dM_readElement_50 : decode bM_readElement 50 = .ok (.getfield 68, 3) := by decide +kernel
theorem dM_readElement_53 : decode bM_readElement 53 = .ok (.iload_n 2, 1) := by decide +kernel
theorem dM_readElement_54 : decode bM_readElement 54 = .ok (.aload_n 0, 1) := by decide +kernel
theorem dM_readElement_55 : decode bM_readElement 55 = .ok (.invokevirtual 180, 3) := by decide +kernel
theorem dM_readElement_58 : decode bM_readElement 58 = .ok (.iastore, 1) := by decide +kernel
theorem dM_readElement_59 : decode bM_readElement 59 = .ok (.aload_n 0, 1) := by decide +kernel
theorem dM_readElement_60 : decode bM_readElement 60 = .ok (.getfield 71, 3) := by decide +kernel
theorem dM_readElement_63 : decode bM_readElement 63 = .ok (.iload_n 2, 1) := by decide +kernel
theorem dM_readElement_64 : decode bM_readElement 64 = .ok (.aload_n 0, 1) := by decide +kernel
theorem dM_readElement_65 : decode bM_readElement 65 = .ok (.getfield 158, 3) := by decide +kernel
theorem dM_readElement_68 : decode bM_readElement 68 = .ok (.iastore, 1) := by decide +kernel
theorem dM_readElement_69 : decode bM_readElement 69 = .ok (.aload_n 0, 1) := by decide +kernel
theorem dM_readElement_70 : decode bM_readElement 70 = .ok (.getfield 74, 3) := by decide +kernel
theorem dM_readElement_73 : decode bM_readElement 73 = .ok (.iload_n 2, 1) := by decide +kernel
theorem dM_readElement_74 : decode bM_readElement 74 = .ok (.iconst (-1), 1) := by decide +kernel
theorem dM_readElement_75 : decode bM_readElement 75 = .ok (.iastore, 1) := by decide +kernel
theorem dM_readElement_76 : decode bM_readElement 76 = .ok (.iload_n 1, 1) := by decide +kernel
theorem dM_readElement_77 : decode bM_readElement 77 = .ok (.iconst 2, 1) := by decide +kernel
theorem dM_readElement_78 : decode bM_readElement 78 = .ok (.if_icmp .ne 48, 3) := by decide +kernel
theorem dM_readElement_81 : decode bM_readElement 81 = .ok (.aload_n 0, 1) := by decide +kernel
theorem dM_readElement_82 : decode bM_readElement 82 = .ok (.iconst 4, 1) := by decide +kernel
theorem dM_readElement_83 : decode bM_readElement 83 = .ok (.invokevirtual 174, 3) := by decide +kernel
theorem dM_readElement_86 : decode bM_readElement 86 = .ok (.aload_n 0, 1) := by decide +kernel
theorem dM_readElement_87 : decode bM_readElement 87 = .ok (.invokevirtual 180, 3) := by decide +kernel
theorem dM_readElement_90 : decode bM_readElement 90 = .ok (.istore_n 3, 1) := by decide +kernel
theorem dM_readElement_91 : decode bM_readElement 91 = .ok (.aload_n 0, 1) := by decide +kernel
theorem dM_readElement_92 : decode bM_readElement 92 = .ok (.aload_n 0, 1) := by decide +kernel
theorem dM_readElement_93 : decode bM_readElement 93 = .ok (.getfield 161, 3) := by decide +kernel
theorem dM_readElement_96 : decode bM_readElement 96 = .ok (.ifCond .ne 19, 3) := by decide +kernel
theorem dM_readElement_99 : decode bM_readElement 99 = .ok (.aload_n 0, 1) := by decide +kernel
theorem dM_readElement_100 : decode bM_readElement 100 = .ok (.aload_n 0, 1) := by decide +kernel
theorem dM_readElement_101 : decode bM_readElement 101 = .ok (.getfield 71, 3) := by decide +kernel
theorem dM_readElement_104 : decode bM_readElement 104 = .ok (.iload_n 2, 1) := by decide +kernel
theorem dM_readElement_105 : decode bM_readElement 105 = .ok (.iaload, 1) := by decide +kernel
theorem dM_readElement_106 : decode bM_readElement 106 = .ok (.invokevirtual 183, 3) := by decide +kernel
theorem dM_readElement_109 : decode bM_readElement 109 = .ok (.iload_n 3, 1) := by decide +kernel
theorem dM_readElement_110 : decode bM_readElement 110 = .ok (.iconst 1, 1) := by decide +kernel
theorem dM_readElement_111 : decode bM_readElement 111 = .ok (.iadd, 1) := by decide +kernel
theorem dM_readElement_112 : decode bM_readElement 112 = .ok (.if_icmp .eq 7, 3) := by decide +kernel
end
section
/-! decode rows of class PropertyDocumentsModel: laid by wip/gen/names.py -/
theorem dM_readElement_115 : decode bM_readElement 115 = .ok (.iconst 1, 1) := by decide +kernel
theorem dM_readElement_116 : decode bM_readElement 116 = .ok (.goto 4, 3) := by decide +kernel
theorem dM_readElement_119 : decode bM_readElement 119 = .ok (.iconst 0, 1) := by decide +kernel
theorem dM_readElement_120 : decode bM_readElement 120 = .ok (.putfield 161, 3) := by decide +kernel
theorem dM_readElement_123 : decode bM_readElement 123 = .ok (.goto 113, 3) := by decide +kernel
theorem dM_readElement_126 : decode bM_readElement 126 = .ok (.iload_n 1, 1) := by decide +kernel
theorem dM_readElement_127 : decode bM_readElement 127 = .ok (.iconst 3, 1) := by decide +kernel
theorem dM_readElement_128 : decode bM_readElement 128 = .ok (.if_icmp .ne 20, 3) := by decide +kernel
theorem dM_readElement_131 : decode bM_readElement 131 = .ok (.aload_n 0, 1) := by decide +kernel
theorem dM_readElement_132 : decode bM_readElement 132 = .ok (.getfield 74, 3) := by decide +kernel
theorem dM_readElement_135 : decode bM_readElement 135 = .ok (.iload_n 2, 1) := by decide +kernel
theorem dM_readElement_136 : decode bM_readElement 136 = .ok (.aload_n 0, 1) := by decide +kernel
theorem dM_readElement_137 : decode bM_readElement 137 = .ok (.getfield 171, 3) := by decide +kernel
theorem dM_readElement_140 : decode bM_readElement 140 = .ok (.iastore, 1) := by decide +kernel
theorem dM_readElement_141 : decode bM_readElement 141 = .ok (.aload_n 0, 1) := by decide +kernel
theorem dM_readElement_142 : decode bM_readElement 142 = .ok (.invokevirtual 187, 3) := by decide +kernel
theorem dM_readElement_145 : decode bM_readElement 145 = .ok (.goto 91, 3) := by decide +kernel
theorem dM_readElement_148 : decode bM_readElement 148 = .ok (.iload_n 1, 1) := by decide +kernel
theorem dM_readElement_149 : decode bM_readElement 149 = .ok (.bipush 8, 2) := by decide +kernel
theorem dM_readElement_151 : decode bM_readElement 151 = .ok (.if_icmp .ne 32, 3) := by decide +kernel
theorem dM_readElement_154 : decode bM_readElement 154 = .ok (.aload_n 0, 1) := by decide +kernel
theorem dM_readElement_155 : decode bM_readElement 155 = .ok (.invokevirtual 164, 3) := by decide +kernel
theorem dM_readElement_158 : decode bM_readElement 158 = .ok (.istore_n 3, 1) := by decide +kernel
theorem dM_readElement_159 : decode bM_readElement 159 = .ok (.aload_n 0, 1) := by decide +kernel
theorem dM_readElement_160 : decode bM_readElement 160 = .ok (.aload_n 0, 1) := by decide +kernel
theorem dM_readElement_161 : decode bM_readElement 161 = .ok (.getfield 161, 3) := by decide +kernel
theorem dM_readElement_164 : decode bM_readElement 164 = .ok (.ifCond .ne 8, 3) := by decide +kernel
theorem dM_readElement_167 : decode bM_readElement 167 = .ok (.iload_n 3, 1) := by decide +kernel
theorem dM_readElement_168 : decode bM_readElement 168 = .ok (.iconst 1, 1) := by decide +kernel
theorem dM_readElement_169 : decode bM_readElement 169 = .ok (.if_icmp .le 7, 3) := by decide +kernel
theorem dM_readElement_172 : decode bM_readElement 172 = .ok (.iconst 1, 1) := by decide +kernel
theorem dM_readElement_173 : decode bM_readElement 173 = .ok (.goto 4, 3) := by decide +kernel
theorem dM_readElement_176 : decode bM_readElement 176 = .ok (.iconst 0, 1) := by decide +kernel
theorem dM_readElement_177 : decode bM_readElement 177 = .ok (.putfield 161, 3) := by decide +kernel
theorem dM_readElement_180 : decode bM_readElement 180 = .ok (.goto 56, 3) := by decide +kernel
theorem dM_readElement_183 : decode bM_readElement 183 = .ok (.iload_n 1, 1) := by decide +kernel
theorem dM_readElement_184 : decode bM_readElement 184 = .ok (.bipush 16, 2) := by decide +kernel
theorem dM_readElement_186 : decode bM_readElement 186 = .ok (.if_icmp .eq 9, 3) := by decide +kernel
theorem dM_readElement_189 : decode bM_readElement 189 = .ok (.iload_n 1, 1) := by decide +kernel
theorem dM_readElement_190 : decode bM_readElement 190 = .ok (.bipush 18, 2) := by decide +kernel
theorem dM_readElement_192 : decode bM_readElement 192 = .ok (.if_icmp .ne 22, 3) := by decide +kernel
theorem dM_readElement_195 : decode bM_readElement 195 = .ok (.aload_n 0, 1) := by decide +kernel
theorem dM_readElement_196 : decode bM_readElement 196 = .ok (.iload_n 1, 1) := by decide +kernel
theorem dM_readElement_197 : decode bM_readElement 197 = .ok (.bipush 16, 2) := by decide +kernel
theorem dM_readElement_199 : decode bM_readElement 199 = .ok (.if_icmp .ne 7, 3) := by decide +kernel
theorem dM_readElement_202 : decode bM_readElement 202 = .ok (.iconst 4, 1) := by decide +kernel
theorem dM_readElement_203 : decode bM_readElement 203 = .ok (.goto 5, 3) := by decide +kernel
theorem dM_readElement_206 : decode bM_readElement 206 = .ok (.bipush 8, 2) := by decide +kernel
theorem dM_readElement_208 : decode bM_readElement 208 = .ok (.invokevirtual 174, 3) := by decide +kernel
theorem dM_readElement_211 : decode bM_readElement 211 = .ok (.goto 25, 3) := by decide +kernel
theorem dM_readElement_214 : decode bM_readElement 214 = .ok (.aload_n 0, 1) := by decide +kernel
theorem dM_readElement_215 : decode bM_readElement 215 = .ok (.aload_n 0, 1) := by decide +kernel
theorem dM_readElement_216 : decode bM_readElement 216 = .ok (.getfield 161, 3) := by decide +kernel
theorem dM_readElement_219 : decode bM_readElement 219 = .ok (.ifCond .ne 9, 3) := by decide +kernel
theorem dM_readElement_222 : decode bM_readElement 222 = .ok (.iload_n 1, 1) := by decide +kernel
theorem dM_readElement_223 : decode bM_readElement 223 = .ok (.bipush 10, 2) := by decide +kernel
theorem dM_readElement_225 : decode bM_readElement 225 = .ok (.if_icmp .eq 7, 3) := by decide +kernel
theorem dM_readElement_228 : decode bM_readElement 228 = .ok (.iconst 1, 1) := by decide +kernel
theorem dM_readElement_229 : decode bM_readElement 229 = .ok (.goto 4, 3) := by decide +kernel
theorem dM_readElement_232 : decode bM_readElement 232 = .ok (.iconst 0, 1) := by decide +kernel
theorem dM_readElement_233 : decode bM_readElement 233 = .ok (.putfield 161, 3) := by decide +kernel
theorem dM_readElement_236 : decode bM_readElement 236 = .ok (.return_, 1) := by decide +kernel
theorem dM_read_0 : decode bM_read 0 = .ok (.aload_n 0, 1) := by decide +kernel
theorem dM_read_1 : decode bM_read 1 = .ok (.iconst 0, 1) := by decide +kernel
theorem dM_read_2 : decode bM_read 2 = .ok (.putfield 158, 3) := by decide +kernel
theorem dM_read_5 : decode bM_read 5 = .ok (.aload_n 0, 1) := by decide +kernel
theorem dM_read_6 : decode bM_read 6 = .ok (.iconst 0, 1) := by decide +kernel
theorem dM_read_7 : decode bM_read 7 = .ok (.putfield 161, 3) := by decide +kernel
theorem dM_read_10 : decode bM_read 10 = .ok (.aload_n 0, 1) := by decide +kernel
theorem dM_read_11 : decode bM_read 11 = .ok (.iconst 0, 1) := by decide +kernel
theorem dM_read_12 : decode bM_read 12 = .ok (.putfield 171, 3) := by decide +kernel
theorem dM_read_15 : decode bM_read 15 = .ok (.aload_n 0, 1) := by decide +kernel
theorem dM_read_16 : decode bM_read 16 = .ok (.iconst 0, 1) := by decide +kernel
theorem dM_read_17 : decode bM_read 17 = .ok (.putfield 177, 3) := by decide +kernel
theorem dM_read_20 : decode bM_read 20 = .ok (.aload_n 0, 1) := by decide +kernel
theorem dM_read_21 : decode bM_read 21 = .ok (.iconst 0, 1) := by decide +kernel
theorem dM_read_22 : decode bM_read 22 = .ok (.putfield 168, 3) := by decide +kernel
theorem dM_read_25 : decode bM_read 25 = .ok (.aload_n 0, 1) := by decide +kernel
theorem dM_read_26 : decode bM_read 26 = .ok (.invokevirtual 187, 3) := by decide +kernel
theorem dM_read_29 : decode bM_read 29 = .ok (.aload_n 0, 1) := by decide +kernel
theorem dM_read_30 : decode bM_read 30 = .ok (.getfield 168, 3) := by decide +kernel
theorem dM_read_33 : decode bM_read 33 = .ok (.ifCond .le 103, 3) := by decide +kernel
theorem dM_read_36 : decode bM_read 36 = .ok (.aload_n 0, 1) := by decide +kernel
theorem dM_read_37 : decode bM_read 37 = .ok (.getfield 161, 3) := by decide +kernel
theorem dM_read_40 : decode bM_read 40 = .ok (.ifCond .ne 96, 3) := by decide +kernel
theorem dM_read_43 : decode bM_read 43 = .ok (.aload_n 0, 1) := by decide +kernel
theorem dM_read_44 : decode bM_read 44 = .ok (.invokevirtual 164, 3) := by decide +kernel
theorem dM_read_47 : decode bM_read 47 = .ok (.istore_n 1, 1) := by decide +kernel
theorem dM_read_48 : decode bM_read 48 = .ok (.iload_n 1, 1) := by decide +kernel
theorem dM_read_49 : decode bM_read 49 = .ok (.ifCond .le 18, 3) := by decide +kernel
theorem dM_read_52 : decode bM_read 52 = .ok (.aload_n 0, 1) := by decide +kernel
theorem dM_read_53 : decode bM_read 53 = .ok (.getfield 161, 3) := by decide +kernel
theorem dM_read_56 : decode bM_read 56 = .ok (.ifCond .ne 11, 3) := by decide +kernel
theorem dM_read_59 : decode bM_read 59 = .ok (.aload_n 0, 1) := by decide +kernel
theorem dM_read_60 : decode bM_read 60 = .ok (.iload_n 1, 1) := by decide +kernel
theorem dM_read_61 : decode bM_read 61 = .ok (.invokevirtual 190, 3) := by decide +kernel
theorem dM_read_64 : decode bM_read 64 = .ok (.goto 69, 3) := by decide +kernel
theorem dM_read_67 : decode bM_read 67 = .ok (.aload_n 0, 1) := by decide +kernel
theorem dM_read_68 : decode bM_read 68 = .ok (.dup, 1) := by decide +kernel
theorem dM_read_69 : decode bM_read 69 = .ok (.getfield 168, 3) := by decide +kernel
theorem dM_read_72 : decode bM_read 72 = .ok (.iconst 1, 1) := by decide +kernel
theorem dM_read_73 : decode bM_read 73 = .ok (.isub, 1) := by decide +kernel
theorem dM_read_74 : decode bM_read 74 = .ok (.putfield 168, 3) := by decide +kernel
theorem dM_read_77 : decode bM_read 77 = .ok (.aload_n 0, 1) := by decide +kernel
theorem dM_read_78 : decode bM_read 78 = .ok (.aload_n 0, 1) := by decide +kernel
theorem dM_read_79 : decode bM_read 79 = .ok (.getfield 161, 3) := by decide +kernel
theorem dM_read_82 : decode bM_read 82 = .ok (.ifCond .ne 43, 3) := by decide +kernel
theorem dM_read_85 : decode bM_read 85 = .ok (.aload_n 0, 1) := by decide +kernel
theorem dM_read_86 : decode bM_read 86 = .ok (.aload_n 0, 1) := by decide +kernel
theorem dM_read_87 : decode bM_read 87 = .ok (.getfield 47, 3) := by decide +kernel
theorem dM_read_90 : decode bM_read 90 = .ok (.aload_n 0, 1) := by decide +kernel
theorem dM_read_91 : decode bM_read 91 = .ok (.getfield 77, 3) := by decide +kernel
theorem dM_read_94 : decode bM_read 94 = .ok (.aload_n 0, 1) := by decide +kernel
theorem dM_read_95 : decode bM_read 95 = .ok (.getfield 168, 3) := by decide +kernel
theorem dM_read_98 : decode bM_read 98 = .ok (.iaload, 1) := by decide +kernel
theorem dM_read_99 : decode bM_read 99 = .ok (.iaload, 1) := by decide +kernel
theorem dM_read_100 : decode bM_read 100 = .ok (.invokevirtual 183, 3) := by decide +kernel
theorem dM_read_103 : decode bM_read 103 = .ok (.aload_n 0, 1) := by decide +kernel
theorem dM_read_104 : decode bM_read 104 = .ok (.getfield 158, 3) := by decide +kernel
theorem dM_read_107 : decode bM_read 107 = .ok (.aload_n 0, 1) := by decide +kernel
theorem dM_read_108 : decode bM_read 108 = .ok (.getfield 47, 3) := by decide +kernel
theorem dM_read_111 : decode bM_read 111 = .ok (.aload_n 0, 1) := by decide +kernel
theorem dM_read_112 : decode bM_read 112 = .ok (.getfield 77, 3) := by decide +kernel
theorem dM_read_115 : decode bM_read 115 = .ok (.aload_n 0, 1) := by decide +kernel
theorem dM_read_116 : decode bM_read 116 = .ok (.getfield 168, 3) := by decide +kernel
theorem dM_read_119 : decode bM_read 119 = .ok (.iaload, 1) := by decide +kernel
theorem dM_read_120 : decode bM_read 120 = .ok (.iaload, 1) := by decide +kernel
theorem dM_read_121 : decode bM_read 121 = .ok (.isub, 1) := by decide +kernel
theorem dM_read_122 : decode bM_read 122 = .ok (.if_icmp .eq 7, 3) := by decide +kernel
theorem dM_read_125 : decode bM_read 125 = .ok (.iconst 1, 1) := by decide +kernel
theorem dM_read_126 : decode bM_read 126 = .ok (.goto 4, 3) := by decide +kernel
theorem dM_read_129 : decode bM_read 129 = .ok (.iconst 0, 1) := by decide +kernel
theorem dM_read_130 : decode bM_read 130 = .ok (.putfield 161, 3) := by decide +kernel
theorem dM_read_133 : decode bM_read 133 = .ok (.goto (-104), 3) := by decide +kernel
theorem dM_read_136 : decode bM_read 136 = .ok (.aload_n 0, 1) := by decide +kernel
theorem dM_read_137 : decode bM_read 137 = .ok (.getfield 161, 3) := by decide +kernel
theorem dM_read_140 : decode bM_read 140 = .ok (.ifCond .ne 18, 3) := by decide +kernel
theorem dM_read_143 : decode bM_read 143 = .ok (.aload_n 0, 1) := by decide +kernel
theorem dM_read_144 : decode bM_read 144 = .ok (.getfield 158, 3) := by decide +kernel
theorem dM_read_147 : decode bM_read 147 = .ok (.aload_n 0, 1) := by decide +kernel
theorem dM_read_148 : decode bM_read 148 = .ok (.getfield 155, 3) := by decide +kernel
theorem dM_read_151 : decode bM_read 151 = .ok (.if_icmp .ne 7, 3) := by decide +kernel
theorem dM_read_154 : decode bM_read 154 = .ok (.iconst 1, 1) := by decide +kernel
theorem dM_read_155 : decode bM_read 155 = .ok (.goto 4, 3) := by decide +kernel
theorem dM_read_158 : decode bM_read 158 = .ok (.iconst 0, 1) := by decide +kernel
theorem dM_read_159 : decode bM_read 159 = .ok (.ireturn, 1) := by decide +kernel
theorem dM_sound_0 : decode bM_sound 0 = .ok (.aload_n 0, 1) := by decide +kernel
theorem dM_sound_1 : decode bM_sound 1 = .ok (.invokevirtual 193, 3) := by decide +kernel
theorem dM_sound_4 : decode bM_sound 4 = .ok (.ireturn, 1) := by decide +kernel
theorem dM_depth_0 : decode bM_depth 0 = .ok (.aload_n 0, 1) := by decide +kernel
theorem dM_depth_1 : decode bM_depth 1 = .ok (.invokevirtual 193, 3) := by decide +kernel
theorem dM_depth_4 : decode bM_depth 4 = .ok (.ifCond .ne 5, 3) := by decide +kernel
theorem dM_depth_7 : decode bM_depth 7 = .ok (.iconst 0, 1) := by decide +kernel
theorem dM_depth_8 : decode bM_depth 8 = .ok (.ireturn, 1) := by decide +kernel
theorem dM_depth_9 : decode bM_depth 9 = .ok (.iconst 0, 1) := by decide +kernel
theorem dM_depth_10 : decode bM_depth 10 = .ok (.istore_n 1, 1) := by decide +kernel
theorem dM_depth_11 : decode bM_depth 11 = .ok (.iconst 0, 1) := by decide +kernel
theorem dM_depth_12 : decode bM_depth 12 = .ok (.istore_n 2, 1) := by decide +kernel
theorem dM_depth_13 : decode bM_depth 13 = .ok (.iload_n 2, 1) := by decide +kernel
theorem dM_depth_14 : decode bM_depth 14 = .ok (.aload_n 0, 1) := by decide +kernel
theorem dM_depth_15 : decode bM_depth 15 = .ok (.getfield 171, 3) := by decide +kernel
theorem dM_depth_18 : decode bM_depth 18 = .ok (.if_icmp .ge 30, 3) := by decide +kernel
theorem dM_depth_21 : decode bM_depth 21 = .ok (.aload_n 0, 1) := by decide +kernel
theorem dM_depth_22 : decode bM_depth 22 = .ok (.getfield 50, 3) := by decide +kernel
theorem dM_depth_25 : decode bM_depth 25 = .ok (.iload_n 2, 1) := by decide +kernel
theorem dM_depth_26 : decode bM_depth 26 = .ok (.iaload, 1) := by decide +kernel
theorem dM_depth_27 : decode bM_depth 27 = .ok (.iload_n 1, 1) := by decide +kernel
theorem dM_depth_28 : decode bM_depth 28 = .ok (.if_icmp .le 12, 3) := by decide +kernel
theorem dM_depth_31 : decode bM_depth 31 = .ok (.aload_n 0, 1) := by decide +kernel
theorem dM_depth_32 : decode bM_depth 32 = .ok (.getfield 50, 3) := by decide +kernel
theorem dM_depth_35 : decode bM_depth 35 = .ok (.iload_n 2, 1) := by decide +kernel
theorem dM_depth_36 : decode bM_depth 36 = .ok (.iaload, 1) := by decide +kernel
theorem dM_depth_37 : decode bM_depth 37 = .ok (.goto 4, 3) := by decide +kernel
theorem dM_depth_40 : decode bM_depth 40 = .ok (.iload_n 1, 1) := by decide +kernel
theorem dM_depth_41 : decode bM_depth 41 = .ok (.istore_n 1, 1) := by decide +kernel
theorem dM_depth_42 : decode bM_depth 42 = .ok (.iinc 2 1, 3) := by decide +kernel
theorem dM_depth_45 : decode bM_depth 45 = .ok (.goto (-32), 3) := by decide +kernel
theorem dM_depth_48 : decode bM_depth 48 = .ok (.iload_n 1, 1) := by decide +kernel
theorem dM_depth_49 : decode bM_depth 49 = .ok (.ireturn, 1) := by decide +kernel
theorem dM_elements_0 : decode bM_elements 0 = .ok (.aload_n 0, 1) := by decide +kernel
theorem dM_elements_1 : decode bM_elements 1 = .ok (.invokevirtual 193, 3) := by decide +kernel
theorem dM_elements_4 : decode bM_elements 4 = .ok (.ifCond .eq 10, 3) := by decide +kernel
theorem dM_elements_7 : decode bM_elements 7 = .ok (.aload_n 0, 1) := by decide +kernel
theorem dM_elements_8 : decode bM_elements 8 = .ok (.getfield 177, 3) := by decide +kernel
theorem dM_elements_11 : decode bM_elements 11 = .ok (.goto 4, 3) := by decide +kernel
theorem dM_elements_14 : decode bM_elements 14 = .ok (.iconst 0, 1) := by decide +kernel
theorem dM_elements_15 : decode bM_elements 15 = .ok (.ireturn, 1) := by decide +kernel
theorem dM_isMark_0 : decode bM_isMark 0 = .ok (.aload_n 0, 1) := by decide +kernel
theorem dM_isMark_1 : decode bM_isMark 1 = .ok (.getfield 68, 3) := by decide +kernel
theorem dM_isMark_4 : decode bM_isMark 4 = .ok (.iload_n 1, 1) := by decide +kernel
theorem dM_isMark_5 : decode bM_isMark 5 = .ok (.iaload, 1) := by decide +kernel
theorem dM_isMark_6 : decode bM_isMark 6 = .ok (.iconst 2, 1) := by decide +kernel
theorem dM_isMark_7 : decode bM_isMark 7 = .ok (.if_icmp .ne 41, 3) := by decide +kernel
theorem dM_isMark_10 : decode bM_isMark 10 = .ok (.aload_n 0, 1) := by decide +kernel
theorem dM_isMark_11 : decode bM_isMark 11 = .ok (.getfield 32, 3) := by decide +kernel
theorem dM_isMark_14 : decode bM_isMark 14 = .ok (.aload_n 0, 1) := by decide +kernel
theorem dM_isMark_15 : decode bM_isMark 15 = .ok (.getfield 65, 3) := by decide +kernel
theorem dM_isMark_18 : decode bM_isMark 18 = .ok (.iload_n 1, 1) := by decide +kernel
theorem dM_isMark_19 : decode bM_isMark 19 = .ok (.iaload, 1) := by decide +kernel
theorem dM_isMark_20 : decode bM_isMark 20 = .ok (.iaload, 1) := by decide +kernel
theorem dM_isMark_21 : decode bM_isMark 21 = .ok (.bipush 95, 2) := by decide +kernel
theorem dM_isMark_23 : decode bM_isMark 23 = .ok (.if_icmp .ne 25, 3) := by decide +kernel
theorem dM_isMark_26 : decode bM_isMark 26 = .ok (.aload_n 0, 1) := by decide +kernel
theorem dM_isMark_27 : decode bM_isMark 27 = .ok (.getfield 32, 3) := by decide +kernel
theorem dM_isMark_30 : decode bM_isMark 30 = .ok (.aload_n 0, 1) := by decide +kernel
theorem dM_isMark_31 : decode bM_isMark 31 = .ok (.getfield 65, 3) := by decide +kernel
theorem dM_isMark_34 : decode bM_isMark 34 = .ok (.iload_n 1, 1) := by decide +kernel
theorem dM_isMark_35 : decode bM_isMark 35 = .ok (.iaload, 1) := by decide +kernel
theorem dM_isMark_36 : decode bM_isMark 36 = .ok (.iconst 1, 1) := by decide +kernel
theorem dM_isMark_37 : decode bM_isMark 37 = .ok (.iadd, 1) := by decide +kernel
theorem dM_isMark_38 : decode bM_isMark 38 = .ok (.iaload, 1) := by decide +kernel
theorem dM_isMark_39 : decode bM_isMark 39 = .ok (.bipush 116, 2) := by decide +kernel
theorem dM_isMark_41 : decode bM_isMark 41 = .ok (.if_icmp .ne 7, 3) := by decide +kernel
theorem dM_isMark_44 : decode bM_isMark 44 = .ok (.iconst 1, 1) := by decide +kernel
theorem dM_isMark_45 : decode bM_isMark 45 = .ok (.goto 4, 3) := by decide +kernel
theorem dM_isMark_48 : decode bM_isMark 48 = .ok (.iconst 0, 1) := by decide +kernel
theorem dM_isMark_49 : decode bM_isMark 49 = .ok (.ireturn, 1) := by decide +kernel
theorem dM_mean_0 : decode bM_mean 0 = .ok (.iconst 0, 1) := by decide +kernel
theorem dM_mean_1 : decode bM_mean 1 = .ok (.istore_n 2, 1) := by decide +kernel
theorem dM_mean_2 : decode bM_mean 2 = .ok (.aload_n 0, 1) := by decide +kernel
theorem dM_mean_3 : decode bM_mean 3 = .ok (.getfield 56, 3) := by decide +kernel
theorem dM_mean_6 : decode bM_mean 6 = .ok (.iload_n 1, 1) := by decide +kernel
theorem dM_mean_7 : decode bM_mean 7 = .ok (.aload_n 0, 1) := by decide +kernel
theorem dM_mean_8 : decode bM_mean 8 = .ok (.getfield 53, 3) := by decide +kernel
theorem dM_mean_11 : decode bM_mean 11 = .ok (.iload_n 1, 1) := by decide +kernel
theorem dM_mean_12 : decode bM_mean 12 = .ok (.iaload, 1) := by decide +kernel
theorem dM_mean_13 : decode bM_mean 13 = .ok (.iastore, 1) := by decide +kernel
theorem dM_mean_14 : decode bM_mean 14 = .ok (.iconst 0, 1) := by decide +kernel
theorem dM_mean_15 : decode bM_mean 15 = .ok (.istore_n 3, 1) := by decide +kernel
theorem dM_mean_16 : decode bM_mean 16 = .ok (.iload_n 3, 1) := by decide +kernel
theorem dM_mean_17 : decode bM_mean 17 = .ok (.aload_n 0, 1) := by decide +kernel
theorem dM_mean_18 : decode bM_mean 18 = .ok (.getfield 177, 3) := by decide +kernel
theorem dM_mean_21 : decode bM_mean 21 = .ok (.if_icmp .ge 108, 3) := by decide +kernel
theorem dM_mean_24 : decode bM_mean 24 = .ok (.aload_n 0, 1) := by decide +kernel
theorem dM_mean_25 : decode bM_mean 25 = .ok (.getfield 59, 3) := by decide +kernel
theorem dM_mean_28 : decode bM_mean 28 = .ok (.iload_n 3, 1) := by decide +kernel
theorem dM_mean_29 : decode bM_mean 29 = .ok (.iaload, 1) := by decide +kernel
theorem dM_mean_30 : decode bM_mean 30 = .ok (.iload_n 1, 1) := by decide +kernel
theorem dM_mean_31 : decode bM_mean 31 = .ok (.if_icmp .ne 92, 3) := by decide +kernel
theorem dM_mean_34 : decode bM_mean 34 = .ok (.aload_n 0, 1) := by decide +kernel
theorem dM_mean_35 : decode bM_mean 35 = .ok (.iload_n 3, 1) := by decide +kernel
theorem dM_mean_36 : decode bM_mean 36 = .ok (.invokevirtual 197, 3) := by decide +kernel
theorem dM_mean_39 : decode bM_mean 39 = .ok (.ifCond .eq 84, 3) := by decide +kernel
theorem dM_mean_42 : decode bM_mean 42 = .ok (.iinc 2 1, 3) := by decide +kernel
theorem dM_mean_45 : decode bM_mean 45 = .ok (.aload_n 0, 1) := by decide +kernel
theorem dM_mean_46 : decode bM_mean 46 = .ok (.getfield 62, 3) := by decide +kernel
theorem dM_mean_49 : decode bM_mean 49 = .ok (.iload_n 3, 1) := by decide +kernel
theorem dM_mean_50 : decode bM_mean 50 = .ok (.iaload, 1) := by decide +kernel
theorem dM_mean_51 : decode bM_mean 51 = .ok (.iconst 2, 1) := by decide +kernel
theorem dM_mean_52 : decode bM_mean 52 = .ok (.if_icmp .ne 17, 3) := by decide +kernel
theorem dM_mean_55 : decode bM_mean 55 = .ok (.aload_n 0, 1) := by decide +kernel
theorem dM_mean_56 : decode bM_mean 56 = .ok (.aload_n 0, 1) := by decide +kernel
theorem dM_mean_57 : decode bM_mean 57 = .ok (.getfield 71, 3) := by decide +kernel
theorem dM_mean_60 : decode bM_mean 60 = .ok (.iload_n 3, 1) := by decide +kernel
theorem dM_mean_61 : decode bM_mean 61 = .ok (.iaload, 1) := by decide +kernel
theorem dM_mean_62 : decode bM_mean 62 = .ok (.invokevirtual 183, 3) := by decide +kernel
theorem dM_mean_65 : decode bM_mean 65 = .ok (.iconst 2, 1) := by decide +kernel
theorem dM_mean_66 : decode bM_mean 66 = .ok (.if_icmp .eq 5, 3) := by decide +kernel
theorem dM_mean_69 : decode bM_mean 69 = .ok (.iconst 0, 1) := by decide +kernel
theorem dM_mean_70 : decode bM_mean 70 = .ok (.ireturn, 1) := by decide +kernel
theorem dM_mean_71 : decode bM_mean 71 = .ok (.aload_n 0, 1) := by decide +kernel
theorem dM_mean_72 : decode bM_mean 72 = .ok (.getfield 32, 3) := by decide +kernel
theorem dM_mean_75 : decode bM_mean 75 = .ok (.aload_n 0, 1) := by decide +kernel
theorem dM_mean_76 : decode bM_mean 76 = .ok (.getfield 71, 3) := by decide +kernel
theorem dM_mean_79 : decode bM_mean 79 = .ok (.iload_n 3, 1) := by decide +kernel
theorem dM_mean_80 : decode bM_mean 80 = .ok (.iaload, 1) := by decide +kernel
theorem dM_mean_81 : decode bM_mean 81 = .ok (.iconst 4, 1) := by decide +kernel
theorem dM_mean_82 : decode bM_mean 82 = .ok (.iadd, 1) := by decide +kernel
theorem dM_mean_83 : decode bM_mean 83 = .ok (.iaload, 1) := by decide +kernel
theorem dM_mean_84 : decode bM_mean 84 = .ok (.bipush 65, 2) := by decide +kernel
theorem dM_mean_86 : decode bM_mean 86 = .ok (.isub, 1) := by decide +kernel
theorem dM_mean_87 : decode bM_mean 87 = .ok (.istore 4, 2) := by decide +kernel
theorem dM_mean_89 : decode bM_mean 89 = .ok (.aload_n 0, 1) := by decide +kernel
theorem dM_mean_90 : decode bM_mean 90 = .ok (.iload 4, 2) := by decide +kernel
theorem dM_mean_92 : decode bM_mean 92 = .ok (.invokevirtual 94, 3) := by decide +kernel
theorem dM_mean_95 : decode bM_mean 95 = .ok (.ifCond .eq 18, 3) := by decide +kernel
theorem dM_mean_98 : decode bM_mean 98 = .ok (.aload_n 0, 1) := by decide +kernel
theorem dM_mean_99 : decode bM_mean 99 = .ok (.iload 4, 2) := by decide +kernel
theorem dM_mean_101 : decode bM_mean 101 = .ok (.aload_n 0, 1) := by decide +kernel
theorem dM_mean_102 : decode bM_mean 102 = .ok (.getfield 53, 3) := by decide +kernel
theorem dM_mean_105 : decode bM_mean 105 = .ok (.iload_n 1, 1) := by decide +kernel
theorem dM_mean_106 : decode bM_mean 106 = .ok (.iaload, 1) := by decide +kernel
theorem dM_mean_107 : decode bM_mean 107 = .ok (.invokevirtual 84, 3) := by decide +kernel
theorem dM_mean_110 : decode bM_mean 110 = .ok (.ifCond .ne 5, 3) := by decide +kernel
theorem dM_mean_113 : decode bM_mean 113 = .ok (.iconst 0, 1) := by decide +kernel
theorem dM_mean_114 : decode bM_mean 114 = .ok (.ireturn, 1) := by decide +kernel
theorem dM_mean_115 : decode bM_mean 115 = .ok (.aload_n 0, 1) := by decide +kernel
theorem dM_mean_116 : decode bM_mean 116 = .ok (.getfield 56, 3) := by decide +kernel
theorem dM_mean_119 : decode bM_mean 119 = .ok (.iload_n 1, 1) := by decide +kernel
theorem dM_mean_120 : decode bM_mean 120 = .ok (.iload 4, 2) := by decide +kernel
theorem dM_mean_122 : decode bM_mean 122 = .ok (.iastore, 1) := by decide +kernel
theorem dM_mean_123 : decode bM_mean 123 = .ok (.iinc 3 1, 3) := by decide +kernel
theorem dM_mean_126 : decode bM_mean 126 = .ok (.goto (-110), 3) := by decide +kernel
theorem dM_mean_129 : decode bM_mean 129 = .ok (.iload_n 2, 1) := by decide +kernel
theorem dM_mean_130 : decode bM_mean 130 = .ok (.iconst 1, 1) := by decide +kernel
theorem dM_mean_131 : decode bM_mean 131 = .ok (.if_icmp .gt 7, 3) := by decide +kernel
theorem dM_mean_134 : decode bM_mean 134 = .ok (.iconst 1, 1) := by decide +kernel
theorem dM_mean_135 : decode bM_mean 135 = .ok (.goto 4, 3) := by decide +kernel
theorem dM_mean_138 : decode bM_mean 138 = .ok (.iconst 0, 1) := by decide +kernel
theorem dM_mean_139 : decode bM_mean 139 = .ok (.ireturn, 1) := by decide +kernel
theorem dM_about_0 : decode bM_about 0 = .ok (.aload_n 0, 1) := by decide +kernel
theorem dM_about_1 : decode bM_about 1 = .ok (.getfield 68, 3) := by decide +kernel
theorem dM_about_4 : decode bM_about 4 = .ok (.iload_n 1, 1) := by decide +kernel
theorem dM_about_5 : decode bM_about 5 = .ok (.iaload, 1) := by decide +kernel
theorem dM_about_6 : decode bM_about 6 = .ok (.iconst 1, 1) := by decide +kernel
theorem dM_about_7 : decode bM_about 7 = .ok (.if_icmp .ne 35, 3) := by decide +kernel
theorem dM_about_10 : decode bM_about 10 = .ok (.aload_n 0, 1) := by decide +kernel
theorem dM_about_11 : decode bM_about 11 = .ok (.aload_n 0, 1) := by decide +kernel
theorem dM_about_12 : decode bM_about 12 = .ok (.getfield 56, 3) := by decide +kernel
theorem dM_about_15 : decode bM_about 15 = .ok (.aload_n 0, 1) := by decide +kernel
theorem dM_about_16 : decode bM_about 16 = .ok (.getfield 59, 3) := by decide +kernel
theorem dM_about_19 : decode bM_about 19 = .ok (.iload_n 1, 1) := by decide +kernel
theorem dM_about_20 : decode bM_about 20 = .ok (.iaload, 1) := by decide +kernel
theorem dM_about_21 : decode bM_about 21 = .ok (.iaload, 1) := by decide +kernel
theorem dM_about_22 : decode bM_about 22 = .ok (.aload_n 0, 1) := by decide +kernel
theorem dM_about_23 : decode bM_about 23 = .ok (.getfield 32, 3) := by decide +kernel
theorem dM_about_26 : decode bM_about 26 = .ok (.aload_n 0, 1) := by decide +kernel
theorem dM_about_27 : decode bM_about 27 = .ok (.getfield 65, 3) := by decide +kernel
theorem dM_about_30 : decode bM_about 30 = .ok (.iload_n 1, 1) := by decide +kernel
theorem dM_about_31 : decode bM_about 31 = .ok (.iaload, 1) := by decide +kernel
theorem dM_about_32 : decode bM_about 32 = .ok (.iaload, 1) := by decide +kernel
theorem dM_about_33 : decode bM_about 33 = .ok (.bipush 97, 2) := by decide +kernel
theorem dM_about_35 : decode bM_about 35 = .ok (.isub, 1) := by decide +kernel
theorem dM_about_36 : decode bM_about 36 = .ok (.invokevirtual 101, 3) := by decide +kernel
theorem dM_about_39 : decode bM_about 39 = .ok (.goto 4, 3) := by decide +kernel
theorem dM_about_42 : decode bM_about 42 = .ok (.iconst (-1), 1) := by decide +kernel
theorem dM_about_43 : decode bM_about 43 = .ok (.ireturn, 1) := by decide +kernel
theorem dM_typeFits_0 : decode bM_typeFits 0 = .ok (.iload_n 1, 1) := by decide +kernel
theorem dM_typeFits_1 : decode bM_typeFits 1 = .ok (.iconst 3, 1) := by decide +kernel
theorem dM_typeFits_2 : decode bM_typeFits 2 = .ok (.if_icmp .ne 20, 3) := by decide +kernel
theorem dM_typeFits_5 : decode bM_typeFits 5 = .ok (.iload_n 0, 1) := by decide +kernel
theorem dM_typeFits_6 : decode bM_typeFits 6 = .ok (.bipush 10, 2) := by decide +kernel
theorem dM_typeFits_8 : decode bM_typeFits 8 = .ok (.if_icmp .eq 8, 3) := by decide +kernel
theorem dM_typeFits_11 : decode bM_typeFits 11 = .ok (.iload_n 0, 1) := by decide +kernel
theorem dM_typeFits_12 : decode bM_typeFits 12 = .ok (.iconst 3, 1) := by decide +kernel
theorem dM_typeFits_13 : decode bM_typeFits 13 = .ok (.if_icmp .ne 7, 3) := by decide +kernel
theorem dM_typeFits_16 : decode bM_typeFits 16 = .ok (.iconst 1, 1) := by decide +kernel
theorem dM_typeFits_17 : decode bM_typeFits 17 = .ok (.goto 4, 3) := by decide +kernel
theorem dM_typeFits_20 : decode bM_typeFits 20 = .ok (.iconst 0, 1) := by decide +kernel
theorem dM_typeFits_21 : decode bM_typeFits 21 = .ok (.ireturn, 1) := by decide +kernel
theorem dM_typeFits_22 : decode bM_typeFits 22 = .ok (.iload_n 1, 1) := by decide +kernel
theorem dM_typeFits_23 : decode bM_typeFits 23 = .ok (.ifCond .ne 17, 3) := by decide +kernel
theorem dM_typeFits_26 : decode bM_typeFits 26 = .ok (.iload_n 0, 1) := by decide +kernel
theorem dM_typeFits_27 : decode bM_typeFits 27 = .ok (.bipush 16, 2) := by decide +kernel
theorem dM_typeFits_29 : decode bM_typeFits 29 = .ok (.if_icmp .ne 7, 3) := by decide +kernel
theorem dM_typeFits_32 : decode bM_typeFits 32 = .ok (.iconst 1, 1) := by decide +kernel
theorem dM_typeFits_33 : decode bM_typeFits 33 = .ok (.goto 43, 3) := by decide +kernel
theorem dM_typeFits_36 : decode bM_typeFits 36 = .ok (.iconst 0, 1) := by decide +kernel
theorem dM_typeFits_37 : decode bM_typeFits 37 = .ok (.goto 39, 3) := by decide +kernel
theorem dM_typeFits_40 : decode bM_typeFits 40 = .ok (.iload_n 1, 1) := by decide +kernel
theorem dM_typeFits_41 : decode bM_typeFits 41 = .ok (.iconst 1, 1) := by decide +kernel
theorem dM_typeFits_42 : decode bM_typeFits 42 = .ok (.if_icmp .ne 23, 3) := by decide +kernel
theorem dM_typeFits_45 : decode bM_typeFits 45 = .ok (.iload_n 0, 1) := by decide +kernel
theorem dM_typeFits_46 : decode bM_typeFits 46 = .ok (.bipush 18, 2) := by decide +kernel
theorem dM_typeFits_48 : decode bM_typeFits 48 = .ok (.if_icmp .eq 9, 3) := by decide +kernel
theorem dM_typeFits_51 : decode bM_typeFits 51 = .ok (.iload_n 0, 1) := by decide +kernel
theorem dM_typeFits_52 : decode bM_typeFits 52 = .ok (.bipush 16, 2) := by decide +kernel
theorem dM_typeFits_54 : decode bM_typeFits 54 = .ok (.if_icmp .ne 7, 3) := by decide +kernel
theorem dM_typeFits_57 : decode bM_typeFits 57 = .ok (.iconst 1, 1) := by decide +kernel
theorem dM_typeFits_58 : decode bM_typeFits 58 = .ok (.goto 18, 3) := by decide +kernel
theorem dM_typeFits_61 : decode bM_typeFits 61 = .ok (.iconst 0, 1) := by decide +kernel
theorem dM_typeFits_62 : decode bM_typeFits 62 = .ok (.goto 14, 3) := by decide +kernel
theorem dM_typeFits_65 : decode bM_typeFits 65 = .ok (.iload_n 0, 1) := by decide +kernel
theorem dM_typeFits_66 : decode bM_typeFits 66 = .ok (.bipush 8, 2) := by decide +kernel
theorem dM_typeFits_68 : decode bM_typeFits 68 = .ok (.if_icmp .ne 7, 3) := by decide +kernel
theorem dM_typeFits_71 : decode bM_typeFits 71 = .ok (.iconst 1, 1) := by decide +kernel
theorem dM_typeFits_72 : decode bM_typeFits 72 = .ok (.goto 4, 3) := by decide +kernel
theorem dM_typeFits_75 : decode bM_typeFits 75 = .ok (.iconst 0, 1) := by decide +kernel
theorem dM_typeFits_76 : decode bM_typeFits 76 = .ok (.ireturn, 1) := by decide +kernel
theorem dM_isKind_0 : decode bM_isKind 0 = .ok (.iconst 0, 1) := by decide +kernel
theorem dM_isKind_1 : decode bM_isKind 1 = .ok (.istore_n 3, 1) := by decide +kernel
theorem dM_isKind_2 : decode bM_isKind 2 = .ok (.iload_n 1, 1) := by decide +kernel
theorem dM_isKind_3 : decode bM_isKind 3 = .ok (.istore 4, 2) := by decide +kernel
theorem dM_isKind_5 : decode bM_isKind 5 = .ok (.iload 4, 2) := by decide +kernel
theorem dM_isKind_7 : decode bM_isKind 7 = .ok (.ifCond .lt 31, 3) := by decide +kernel
theorem dM_isKind_10 : decode bM_isKind 10 = .ok (.iload_n 3, 1) := by decide +kernel
theorem dM_isKind_11 : decode bM_isKind 11 = .ok (.ifCond .ne 9, 3) := by decide +kernel
theorem dM_isKind_14 : decode bM_isKind 14 = .ok (.iload 4, 2) := by decide +kernel
theorem dM_isKind_16 : decode bM_isKind 16 = .ok (.iload_n 2, 1) := by decide +kernel
theorem dM_isKind_17 : decode bM_isKind 17 = .ok (.if_icmp .ne 7, 3) := by decide +kernel
theorem dM_isKind_20 : decode bM_isKind 20 = .ok (.iconst 1, 1) := by decide +kernel
theorem dM_isKind_21 : decode bM_isKind 21 = .ok (.goto 4, 3) := by decide +kernel
theorem dM_isKind_24 : decode bM_isKind 24 = .ok (.iconst 0, 1) := by decide +kernel
theorem dM_isKind_25 : decode bM_isKind 25 = .ok (.istore_n 3, 1) := by decide +kernel
theorem dM_isKind_26 : decode bM_isKind 26 = .ok (.aload_n 0, 1) := by decide +kernel
theorem dM_isKind_27 : decode bM_isKind 27 = .ok (.getfield 7, 3) := by decide +kernel
theorem dM_isKind_30 : decode bM_isKind 30 = .ok (.iload 4, 2) := by decide +kernel
theorem dM_isKind_32 : decode bM_isKind 32 = .ok (.iaload, 1) := by decide +kernel
theorem dM_isKind_33 : decode bM_isKind 33 = .ok (.istore 4, 2) := by decide +kernel
theorem dM_isKind_35 : decode bM_isKind 35 = .ok (.goto (-30), 3) := by decide +kernel
theorem dM_isKind_38 : decode bM_isKind 38 = .ok (.iload_n 3, 1) := by decide +kernel
theorem dM_isKind_39 : decode bM_isKind 39 = .ok (.ireturn, 1) := by decide +kernel
theorem dM_fits_0 : decode bM_fits 0 = .ok (.aload_n 0, 1) := by decide +kernel
theorem dM_fits_1 : decode bM_fits 1 = .ok (.iload_n 1, 1) := by decide +kernel
theorem dM_fits_2 : decode bM_fits 2 = .ok (.invokevirtual 200, 3) := by decide +kernel
theorem dM_fits_5 : decode bM_fits 5 = .ok (.ifCond .ne 5, 3) := by decide +kernel
theorem dM_fits_8 : decode bM_fits 8 = .ok (.iconst 0, 1) := by decide +kernel
theorem dM_fits_9 : decode bM_fits 9 = .ok (.ireturn, 1) := by decide +kernel
theorem dM_fits_10 : decode bM_fits 10 = .ok (.iconst 0, 1) := by decide +kernel
theorem dM_fits_11 : decode bM_fits 11 = .ok (.istore_n 2, 1) := by decide +kernel
theorem dM_fits_12 : decode bM_fits 12 = .ok (.iload_n 2, 1) := by decide +kernel
theorem dM_fits_13 : decode bM_fits 13 = .ok (.aload_n 0, 1) := by decide +kernel
theorem dM_fits_14 : decode bM_fits 14 = .ok (.getfield 177, 3) := by decide +kernel
theorem dM_fits_17 : decode bM_fits 17 = .ok (.if_icmp .ge 130, 3) := by decide +kernel
theorem dM_fits_20 : decode bM_fits 20 = .ok (.aload_n 0, 1) := by decide +kernel
theorem dM_fits_21 : decode bM_fits 21 = .ok (.getfield 59, 3) := by decide +kernel
theorem dM_fits_24 : decode bM_fits 24 = .ok (.iload_n 2, 1) := by decide +kernel
theorem dM_fits_25 : decode bM_fits 25 = .ok (.iaload, 1) := by decide +kernel
theorem dM_fits_26 : decode bM_fits 26 = .ok (.iload_n 1, 1) := by decide +kernel
theorem dM_fits_27 : decode bM_fits 27 = .ok (.if_icmp .ne 114, 3) := by decide +kernel
theorem dM_fits_30 : decode bM_fits 30 = .ok (.aload_n 0, 1) := by decide +kernel
theorem dM_fits_31 : decode bM_fits 31 = .ok (.iload_n 2, 1) := by decide +kernel
theorem dM_fits_32 : decode bM_fits 32 = .ok (.invokevirtual 197, 3) := by decide +kernel
theorem dM_fits_35 : decode bM_fits 35 = .ok (.ifCond .ne 106, 3) := by decide +kernel
theorem dM_fits_38 : decode bM_fits 38 = .ok (.aload_n 0, 1) := by decide +kernel
theorem dM_fits_39 : decode bM_fits 39 = .ok (.iload_n 2, 1) := by decide +kernel
theorem dM_fits_40 : decode bM_fits 40 = .ok (.invokevirtual 203, 3) := by decide +kernel
theorem dM_fits_43 : decode bM_fits 43 = .ok (.istore_n 3, 1) := by decide +kernel
theorem dM_fits_44 : decode bM_fits 44 = .ok (.iload_n 3, 1) := by decide +kernel
theorem dM_fits_45 : decode bM_fits 45 = .ok (.ifCond .lt 21, 3) := by decide +kernel
theorem dM_fits_48 : decode bM_fits 48 = .ok (.aload_n 0, 1) := by decide +kernel
theorem dM_fits_49 : decode bM_fits 49 = .ok (.getfield 62, 3) := by decide +kernel
theorem dM_fits_52 : decode bM_fits 52 = .ok (.iload_n 2, 1) := by decide +kernel
theorem dM_fits_53 : decode bM_fits 53 = .ok (.iaload, 1) := by decide +kernel
theorem dM_fits_54 : decode bM_fits 54 = .ok (.aload_n 0, 1) := by decide +kernel
theorem dM_fits_55 : decode bM_fits 55 = .ok (.getfield 19, 3) := by decide +kernel
theorem dM_fits_58 : decode bM_fits 58 = .ok (.iload_n 3, 1) := by decide +kernel
theorem dM_fits_59 : decode bM_fits 59 = .ok (.iaload, 1) := by decide +kernel
theorem dM_fits_60 : decode bM_fits 60 = .ok (.invokestatic 206, 3) := by decide +kernel
theorem dM_fits_63 : decode bM_fits 63 = .ok (.ifCond .ne 5, 3) := by decide +kernel
theorem dM_fits_66 : decode bM_fits 66 = .ok (.iconst 0, 1) := by decide +kernel
theorem dM_fits_67 : decode bM_fits 67 = .ok (.ireturn, 1) := by decide +kernel
theorem dM_fits_68 : decode bM_fits 68 = .ok (.iconst 0, 1) := by decide +kernel
theorem dM_fits_69 : decode bM_fits 69 = .ok (.istore 4, 2) := by decide +kernel
theorem dM_fits_71 : decode bM_fits 71 = .ok (.iload 4, 2) := by decide +kernel
theorem dM_fits_73 : decode bM_fits 73 = .ok (.iload_n 2, 1) := by decide +kernel
theorem dM_fits_74 : decode bM_fits 74 = .ok (.if_icmp .ge 41, 3) := by decide +kernel
theorem dM_fits_77 : decode bM_fits 77 = .ok (.aload_n 0, 1) := by decide +kernel
theorem dM_fits_78 : decode bM_fits 78 = .ok (.getfield 59, 3) := by decide +kernel
theorem dM_fits_81 : decode bM_fits 81 = .ok (.iload 4, 2) := by decide +kernel
theorem dM_fits_83 : decode bM_fits 83 = .ok (.iaload, 1) := by decide +kernel
theorem dM_fits_84 : decode bM_fits 84 = .ok (.iload_n 1, 1) := by decide +kernel
theorem dM_fits_85 : decode bM_fits 85 = .ok (.if_icmp .ne 24, 3) := by decide +kernel
theorem dM_fits_88 : decode bM_fits 88 = .ok (.aload_n 0, 1) := by decide +kernel
theorem dM_fits_89 : decode bM_fits 89 = .ok (.iload 4, 2) := by decide +kernel
theorem dM_fits_91 : decode bM_fits 91 = .ok (.invokevirtual 197, 3) := by decide +kernel
theorem dM_fits_94 : decode bM_fits 94 = .ok (.ifCond .ne 15, 3) := by decide +kernel
theorem dM_fits_97 : decode bM_fits 97 = .ok (.aload_n 0, 1) := by decide +kernel
theorem dM_fits_98 : decode bM_fits 98 = .ok (.iload 4, 2) := by decide +kernel
theorem dM_fits_100 : decode bM_fits 100 = .ok (.invokevirtual 203, 3) := by decide +kernel
theorem dM_fits_103 : decode bM_fits 103 = .ok (.iload_n 3, 1) := by decide +kernel
theorem dM_fits_104 : decode bM_fits 104 = .ok (.if_icmp .ne 5, 3) := by decide +kernel
theorem dM_fits_107 : decode bM_fits 107 = .ok (.iconst 0, 1) := by decide +kernel
theorem dM_fits_108 : decode bM_fits 108 = .ok (.ireturn, 1) := by decide +kernel
theorem dM_fits_109 : decode bM_fits 109 = .ok (.iinc 4 1, 3) := by decide +kernel
theorem dM_fits_112 : decode bM_fits 112 = .ok (.goto (-41), 3) := by decide +kernel
theorem dM_fits_115 : decode bM_fits 115 = .ok (.aload_n 0, 1) := by decide +kernel
theorem dM_fits_116 : decode bM_fits 116 = .ok (.getfield 74, 3) := by decide +kernel
theorem dM_fits_119 : decode bM_fits 119 = .ok (.iload_n 2, 1) := by decide +kernel
theorem dM_fits_120 : decode bM_fits 120 = .ok (.iaload, 1) := by decide +kernel
theorem dM_fits_121 : decode bM_fits 121 = .ok (.ifCond .lt 20, 3) := by decide +kernel
theorem dM_fits_124 : decode bM_fits 124 = .ok (.aload_n 0, 1) := by decide +kernel
theorem dM_fits_125 : decode bM_fits 125 = .ok (.getfield 53, 3) := by decide +kernel
theorem dM_fits_128 : decode bM_fits 128 = .ok (.aload_n 0, 1) := by decide +kernel
end
section
/-! decode rows of class PropertyDocumentsModel: laid by wip/gen/names.py -/
theorem dM_fits_129 : decode bM_fits 129 = .ok (.getfield 74, 3) := by decide +kernel
theorem dM_fits_132 : decode bM_fits 132 = .ok (.iload_n 2, 1) := by decide +kernel
theorem dM_fits_133 : decode bM_fits 133 = .ok (.iaload, 1) := by decide +kernel
theorem dM_fits_134 : decode bM_fits 134 = .ok (.aload_n 0, 1) := by decide +kernel
theorem dM_fits_135 : decode bM_fits 135 = .ok (.getfield 22, 3) := by decide +kernel
theorem dM_fits_138 : decode bM_fits 138 = .ok (.iload_n 3, 1) := by decide +kernel
theorem dM_fits_139 : decode bM_fits 139 = .ok (.iaload, 1) := by decide +kernel
theorem dM_fits_140 : decode bM_fits 140 = .ok (.iastore, 1) := by decide +kernel
theorem dM_fits_141 : decode bM_fits 141 = .ok (.iinc 2 1, 3) := by decide +kernel
theorem dM_fits_144 : decode bM_fits 144 = .ok (.goto (-132), 3) := by decide +kernel
theorem dM_fits_147 : decode bM_fits 147 = .ok (.iconst 1, 1) := by decide +kernel
theorem dM_fits_148 : decode bM_fits 148 = .ok (.ireturn, 1) := by decide +kernel
theorem dM_long64_0 : decode bM_long64 0 = .ok (.aload_n 0, 1) := by decide +kernel
theorem dM_long64_1 : decode bM_long64 1 = .ok (.iload_n 1, 1) := by decide +kernel
theorem dM_long64_2 : decode bM_long64 2 = .ok (.invokevirtual 183, 3) := by decide +kernel
theorem dM_long64_5 : decode bM_long64 5 = .ok (.i2l, 1) := by decide +kernel
theorem dM_long64_6 : decode bM_long64 6 = .ok (.ldc2_w 209, 3) := by decide +kernel
theorem dM_long64_9 : decode bM_long64 9 = .ok (.land, 1) := by decide +kernel
theorem dM_long64_10 : decode bM_long64 10 = .ok (.aload_n 0, 1) := by decide +kernel
theorem dM_long64_11 : decode bM_long64 11 = .ok (.iload_n 1, 1) := by decide +kernel
theorem dM_long64_12 : decode bM_long64 12 = .ok (.iconst 4, 1) := by decide +kernel
theorem dM_long64_13 : decode bM_long64 13 = .ok (.iadd, 1) := by decide +kernel
theorem dM_long64_14 : decode bM_long64 14 = .ok (.invokevirtual 183, 3) := by decide +kernel
theorem dM_long64_17 : decode bM_long64 17 = .ok (.i2l, 1) := by decide +kernel
theorem dM_long64_18 : decode bM_long64 18 = .ok (.bipush 32, 2) := by decide +kernel
theorem dM_long64_20 : decode bM_long64 20 = .ok (.lshl, 1) := by decide +kernel
theorem dM_long64_21 : decode bM_long64 21 = .ok (.lor, 1) := by decide +kernel
theorem dM_long64_22 : decode bM_long64 22 = .ok (.lreturn, 1) := by decide +kernel
theorem dM_take_0 : decode bM_take 0 = .ok (.aload_n 0, 1) := by decide +kernel
theorem dM_take_1 : decode bM_take 1 = .ok (.iload_n 1, 1) := by decide +kernel
theorem dM_take_2 : decode bM_take 2 = .ok (.invokevirtual 203, 3) := by decide +kernel
theorem dM_take_5 : decode bM_take 5 = .ok (.istore_n 3, 1) := by decide +kernel
theorem dM_take_6 : decode bM_take 6 = .ok (.bipush 8, 2) := by decide +kernel
theorem dM_take_8 : decode bM_take 8 = .ok (.iload_n 2, 1) := by decide +kernel
theorem dM_take_9 : decode bM_take 9 = .ok (.aload_n 0, 1) := by decide +kernel
theorem dM_take_10 : decode bM_take 10 = .ok (.getfield 59, 3) := by decide +kernel
theorem dM_take_13 : decode bM_take 13 = .ok (.iload_n 1, 1) := by decide +kernel
theorem dM_take_14 : decode bM_take 14 = .ok (.iaload, 1) := by decide +kernel
theorem dM_take_15 : decode bM_take 15 = .ok (.iadd, 1) := by decide +kernel
theorem dM_take_16 : decode bM_take 16 = .ok (.imul, 1) := by decide +kernel
theorem dM_take_17 : decode bM_take 17 = .ok (.iload_n 3, 1) := by decide +kernel
theorem dM_take_18 : decode bM_take 18 = .ok (.iadd, 1) := by decide +kernel
theorem dM_take_19 : decode bM_take 19 = .ok (.istore 4, 2) := by decide +kernel
theorem dM_take_21 : decode bM_take 21 = .ok (.aload_n 0, 1) := by decide +kernel
theorem dM_take_22 : decode bM_take 22 = .ok (.getfield 19, 3) := by decide +kernel
theorem dM_take_25 : decode bM_take 25 = .ok (.iload_n 3, 1) := by decide +kernel
theorem dM_take_26 : decode bM_take 26 = .ok (.iaload, 1) := by decide +kernel
theorem dM_take_27 : decode bM_take 27 = .ok (.iconst 3, 1) := by decide +kernel
theorem dM_take_28 : decode bM_take 28 = .ok (.if_icmp .ne 37, 3) := by decide +kernel
theorem dM_take_31 : decode bM_take 31 = .ok (.aload_n 0, 1) := by decide +kernel
theorem dM_take_32 : decode bM_take 32 = .ok (.getfield 28, 3) := by decide +kernel
theorem dM_take_35 : decode bM_take 35 = .ok (.iload 4, 2) := by decide +kernel
theorem dM_take_37 : decode bM_take 37 = .ok (.aload_n 0, 1) := by decide +kernel
theorem dM_take_38 : decode bM_take 38 = .ok (.getfield 74, 3) := by decide +kernel
theorem dM_take_41 : decode bM_take 41 = .ok (.iload_n 1, 1) := by decide +kernel
theorem dM_take_42 : decode bM_take 42 = .ok (.iaload, 1) := by decide +kernel
theorem dM_take_43 : decode bM_take 43 = .ok (.ifCond .ge 9, 3) := by decide +kernel
theorem dM_take_46 : decode bM_take 46 = .ok (.ldc2_w 105, 3) := by decide +kernel
theorem dM_take_49 : decode bM_take 49 = .ok (.goto 12, 3) := by decide +kernel
theorem dM_take_52 : decode bM_take 52 = .ok (.iload_n 2, 1) := by decide +kernel
theorem dM_take_53 : decode bM_take 53 = .ok (.aload_n 0, 1) := by decide +kernel
theorem dM_take_54 : decode bM_take 54 = .ok (.getfield 74, 3) := by decide +kernel
theorem dM_take_57 : decode bM_take 57 = .ok (.iload_n 1, 1) := by decide +kernel
theorem dM_take_58 : decode bM_take 58 = .ok (.iaload, 1) := by decide +kernel
theorem dM_take_59 : decode bM_take 59 = .ok (.iadd, 1) := by decide +kernel
theorem dM_take_60 : decode bM_take 60 = .ok (.i2l, 1) := by decide +kernel
theorem dM_take_61 : decode bM_take 61 = .ok (.lastore, 1) := by decide +kernel
theorem dM_take_62 : decode bM_take 62 = .ok (.goto 78, 3) := by decide +kernel
theorem dM_take_65 : decode bM_take 65 = .ok (.aload_n 0, 1) := by decide +kernel
theorem dM_take_66 : decode bM_take 66 = .ok (.getfield 62, 3) := by decide +kernel
theorem dM_take_69 : decode bM_take 69 = .ok (.iload_n 1, 1) := by decide +kernel
theorem dM_take_70 : decode bM_take 70 = .ok (.iaload, 1) := by decide +kernel
theorem dM_take_71 : decode bM_take 71 = .ok (.bipush 8, 2) := by decide +kernel
theorem dM_take_73 : decode bM_take 73 = .ok (.if_icmp .ne 25, 3) := by decide +kernel
theorem dM_take_76 : decode bM_take 76 = .ok (.aload_n 0, 1) := by decide +kernel
theorem dM_take_77 : decode bM_take 77 = .ok (.getfield 28, 3) := by decide +kernel
theorem dM_take_80 : decode bM_take 80 = .ok (.iload 4, 2) := by decide +kernel
theorem dM_take_82 : decode bM_take 82 = .ok (.aload_n 0, 1) := by decide +kernel
theorem dM_take_83 : decode bM_take 83 = .ok (.getfield 32, 3) := by decide +kernel
theorem dM_take_86 : decode bM_take 86 = .ok (.aload_n 0, 1) := by decide +kernel
theorem dM_take_87 : decode bM_take 87 = .ok (.getfield 71, 3) := by decide +kernel
theorem dM_take_90 : decode bM_take 90 = .ok (.iload_n 1, 1) := by decide +kernel
theorem dM_take_91 : decode bM_take 91 = .ok (.iaload, 1) := by decide +kernel
theorem dM_take_92 : decode bM_take 92 = .ok (.iaload, 1) := by decide +kernel
theorem dM_take_93 : decode bM_take 93 = .ok (.i2l, 1) := by decide +kernel
theorem dM_take_94 : decode bM_take 94 = .ok (.lastore, 1) := by decide +kernel
theorem dM_take_95 : decode bM_take 95 = .ok (.goto 45, 3) := by decide +kernel
theorem dM_take_98 : decode bM_take 98 = .ok (.aload_n 0, 1) := by decide +kernel
theorem dM_take_99 : decode bM_take 99 = .ok (.getfield 28, 3) := by decide +kernel
theorem dM_take_102 : decode bM_take 102 = .ok (.iload 4, 2) := by decide +kernel
theorem dM_take_104 : decode bM_take 104 = .ok (.aload_n 0, 1) := by decide +kernel
theorem dM_take_105 : decode bM_take 105 = .ok (.getfield 62, 3) := by decide +kernel
theorem dM_take_108 : decode bM_take 108 = .ok (.iload_n 1, 1) := by decide +kernel
theorem dM_take_109 : decode bM_take 109 = .ok (.iaload, 1) := by decide +kernel
theorem dM_take_110 : decode bM_take 110 = .ok (.bipush 16, 2) := by decide +kernel
theorem dM_take_112 : decode bM_take 112 = .ok (.if_icmp .ne 17, 3) := by decide +kernel
theorem dM_take_115 : decode bM_take 115 = .ok (.aload_n 0, 1) := by decide +kernel
theorem dM_take_116 : decode bM_take 116 = .ok (.aload_n 0, 1) := by decide +kernel
theorem dM_take_117 : decode bM_take 117 = .ok (.getfield 71, 3) := by decide +kernel
theorem dM_take_120 : decode bM_take 120 = .ok (.iload_n 1, 1) := by decide +kernel
theorem dM_take_121 : decode bM_take 121 = .ok (.iaload, 1) := by decide +kernel
theorem dM_take_122 : decode bM_take 122 = .ok (.invokevirtual 183, 3) := by decide +kernel
theorem dM_take_125 : decode bM_take 125 = .ok (.i2l, 1) := by decide +kernel
theorem dM_take_126 : decode bM_take 126 = .ok (.goto 13, 3) := by decide +kernel
theorem dM_take_129 : decode bM_take 129 = .ok (.aload_n 0, 1) := by decide +kernel
theorem dM_take_130 : decode bM_take 130 = .ok (.aload_n 0, 1) := by decide +kernel
theorem dM_take_131 : decode bM_take 131 = .ok (.getfield 71, 3) := by decide +kernel
theorem dM_take_134 : decode bM_take 134 = .ok (.iload_n 1, 1) := by decide +kernel
theorem dM_take_135 : decode bM_take 135 = .ok (.iaload, 1) := by decide +kernel
theorem dM_take_136 : decode bM_take 136 = .ok (.invokevirtual 211, 3) := by decide +kernel
theorem dM_take_139 : decode bM_take 139 = .ok (.lastore, 1) := by decide +kernel
theorem dM_take_140 : decode bM_take 140 = .ok (.return_, 1) := by decide +kernel
theorem dM_decode_0 : decode bM_decode 0 = .ok (.aload_n 0, 1) := by decide +kernel
theorem dM_decode_1 : decode bM_decode 1 = .ok (.iload_n 1, 1) := by decide +kernel
theorem dM_decode_2 : decode bM_decode 2 = .ok (.invokevirtual 94, 3) := by decide +kernel
theorem dM_decode_5 : decode bM_decode 5 = .ok (.ifCond .ne 5, 3) := by decide +kernel
theorem dM_decode_8 : decode bM_decode 8 = .ok (.iconst (-1), 1) := by decide +kernel
theorem dM_decode_9 : decode bM_decode 9 = .ok (.ireturn, 1) := by decide +kernel
theorem dM_decode_10 : decode bM_decode 10 = .ok (.aload_n 0, 1) := by decide +kernel
theorem dM_decode_11 : decode bM_decode 11 = .ok (.invokevirtual 193, 3) := by decide +kernel
theorem dM_decode_14 : decode bM_decode 14 = .ok (.ifCond .ne 6, 3) := by decide +kernel
theorem dM_decode_17 : decode bM_decode 17 = .ok (.bipush (-3), 2) := by decide +kernel
theorem dM_decode_19 : decode bM_decode 19 = .ok (.ireturn, 1) := by decide +kernel
theorem dM_decode_20 : decode bM_decode 20 = .ok (.aload_n 0, 1) := by decide +kernel
theorem dM_decode_21 : decode bM_decode 21 = .ok (.getfield 53, 3) := by decide +kernel
theorem dM_decode_24 : decode bM_decode 24 = .ok (.iconst 0, 1) := by decide +kernel
theorem dM_decode_25 : decode bM_decode 25 = .ok (.iload_n 1, 1) := by decide +kernel
theorem dM_decode_26 : decode bM_decode 26 = .ok (.iastore, 1) := by decide +kernel
theorem dM_decode_27 : decode bM_decode 27 = .ok (.iconst 0, 1) := by decide +kernel
theorem dM_decode_28 : decode bM_decode 28 = .ok (.istore_n 2, 1) := by decide +kernel
theorem dM_decode_29 : decode bM_decode 29 = .ok (.iload_n 2, 1) := by decide +kernel
theorem dM_decode_30 : decode bM_decode 30 = .ok (.aload_n 0, 1) := by decide +kernel
theorem dM_decode_31 : decode bM_decode 31 = .ok (.getfield 171, 3) := by decide +kernel
theorem dM_decode_34 : decode bM_decode 34 = .ok (.if_icmp .ge 20, 3) := by decide +kernel
theorem dM_decode_37 : decode bM_decode 37 = .ok (.aload_n 0, 1) := by decide +kernel
theorem dM_decode_38 : decode bM_decode 38 = .ok (.iload_n 2, 1) := by decide +kernel
theorem dM_decode_39 : decode bM_decode 39 = .ok (.invokevirtual 215, 3) := by decide +kernel
theorem dM_decode_42 : decode bM_decode 42 = .ok (.ifCond .ne 6, 3) := by decide +kernel
theorem dM_decode_45 : decode bM_decode 45 = .ok (.bipush (-4), 2) := by decide +kernel
theorem dM_decode_47 : decode bM_decode 47 = .ok (.ireturn, 1) := by decide +kernel
theorem dM_decode_48 : decode bM_decode 48 = .ok (.iinc 2 1, 3) := by decide +kernel
theorem dM_decode_51 : decode bM_decode 51 = .ok (.goto (-22), 3) := by decide +kernel
theorem dM_decode_54 : decode bM_decode 54 = .ok (.aload_n 0, 1) := by decide +kernel
theorem dM_decode_55 : decode bM_decode 55 = .ok (.getfield 98, 3) := by decide +kernel
theorem dM_decode_58 : decode bM_decode 58 = .ok (.aload_n 0, 1) := by decide +kernel
theorem dM_decode_59 : decode bM_decode 59 = .ok (.getfield 171, 3) := by decide +kernel
theorem dM_decode_62 : decode bM_decode 62 = .ok (.iadd, 1) := by decide +kernel
theorem dM_decode_63 : decode bM_decode 63 = .ok (.bipush 12, 2) := by decide +kernel
theorem dM_decode_65 : decode bM_decode 65 = .ok (.if_icmp .le 6, 3) := by decide +kernel
theorem dM_decode_68 : decode bM_decode 68 = .ok (.bipush (-5), 2) := by decide +kernel
theorem dM_decode_70 : decode bM_decode 70 = .ok (.ireturn, 1) := by decide +kernel
theorem dM_decode_71 : decode bM_decode 71 = .ok (.aload_n 0, 1) := by decide +kernel
theorem dM_decode_72 : decode bM_decode 72 = .ok (.getfield 98, 3) := by decide +kernel
theorem dM_decode_75 : decode bM_decode 75 = .ok (.istore_n 2, 1) := by decide +kernel
theorem dM_decode_76 : decode bM_decode 76 = .ok (.iconst 0, 1) := by decide +kernel
theorem dM_decode_77 : decode bM_decode 77 = .ok (.istore_n 3, 1) := by decide +kernel
theorem dM_decode_78 : decode bM_decode 78 = .ok (.iload_n 3, 1) := by decide +kernel
theorem dM_decode_79 : decode bM_decode 79 = .ok (.aload_n 0, 1) := by decide +kernel
theorem dM_decode_80 : decode bM_decode 80 = .ok (.getfield 171, 3) := by decide +kernel
theorem dM_decode_83 : decode bM_decode 83 = .ok (.if_icmp .ge 42, 3) := by decide +kernel
theorem dM_decode_86 : decode bM_decode 86 = .ok (.aload_n 0, 1) := by decide +kernel
theorem dM_decode_87 : decode bM_decode 87 = .ok (.getfield 25, 3) := by decide +kernel
theorem dM_decode_90 : decode bM_decode 90 = .ok (.aload_n 0, 1) := by decide +kernel
theorem dM_decode_91 : decode bM_decode 91 = .ok (.getfield 98, 3) := by decide +kernel
theorem dM_decode_94 : decode bM_decode 94 = .ok (.aload_n 0, 1) := by decide +kernel
theorem dM_decode_95 : decode bM_decode 95 = .ok (.getfield 56, 3) := by decide +kernel
theorem dM_decode_98 : decode bM_decode 98 = .ok (.iload_n 3, 1) := by decide +kernel
theorem dM_decode_99 : decode bM_decode 99 = .ok (.iaload, 1) := by decide +kernel
theorem dM_decode_100 : decode bM_decode 100 = .ok (.iastore, 1) := by decide +kernel
theorem dM_decode_101 : decode bM_decode 101 = .ok (.aload_n 0, 1) := by decide +kernel
theorem dM_decode_102 : decode bM_decode 102 = .ok (.aload_n 0, 1) := by decide +kernel
theorem dM_decode_103 : decode bM_decode 103 = .ok (.getfield 98, 3) := by decide +kernel
theorem dM_decode_106 : decode bM_decode 106 = .ok (.invokevirtual 107, 3) := by decide +kernel
theorem dM_decode_109 : decode bM_decode 109 = .ok (.aload_n 0, 1) := by decide +kernel
theorem dM_decode_110 : decode bM_decode 110 = .ok (.dup, 1) := by decide +kernel
theorem dM_decode_111 : decode bM_decode 111 = .ok (.getfield 98, 3) := by decide +kernel
theorem dM_decode_114 : decode bM_decode 114 = .ok (.iconst 1, 1) := by decide +kernel
theorem dM_decode_115 : decode bM_decode 115 = .ok (.iadd, 1) := by decide +kernel
theorem dM_decode_116 : decode bM_decode 116 = .ok (.putfield 98, 3) := by decide +kernel
theorem dM_decode_119 : decode bM_decode 119 = .ok (.iinc 3 1, 3) := by decide +kernel
theorem dM_decode_122 : decode bM_decode 122 = .ok (.goto (-44), 3) := by decide +kernel
theorem dM_decode_125 : decode bM_decode 125 = .ok (.iconst 0, 1) := by decide +kernel
theorem dM_decode_126 : decode bM_decode 126 = .ok (.istore_n 3, 1) := by decide +kernel
theorem dM_decode_127 : decode bM_decode 127 = .ok (.iload_n 3, 1) := by decide +kernel
theorem dM_decode_128 : decode bM_decode 128 = .ok (.aload_n 0, 1) := by decide +kernel
theorem dM_decode_129 : decode bM_decode 129 = .ok (.getfield 177, 3) := by decide +kernel
theorem dM_decode_132 : decode bM_decode 132 = .ok (.if_icmp .ge 23, 3) := by decide +kernel
theorem dM_decode_135 : decode bM_decode 135 = .ok (.aload_n 0, 1) := by decide +kernel
theorem dM_decode_136 : decode bM_decode 136 = .ok (.iload_n 3, 1) := by decide +kernel
theorem dM_decode_137 : decode bM_decode 137 = .ok (.invokevirtual 197, 3) := by decide +kernel
theorem dM_decode_140 : decode bM_decode 140 = .ok (.ifCond .ne 9, 3) := by decide +kernel
theorem dM_decode_143 : decode bM_decode 143 = .ok (.aload_n 0, 1) := by decide +kernel
theorem dM_decode_144 : decode bM_decode 144 = .ok (.iload_n 3, 1) := by decide +kernel
theorem dM_decode_145 : decode bM_decode 145 = .ok (.iload_n 2, 1) := by decide +kernel
theorem dM_decode_146 : decode bM_decode 146 = .ok (.invokevirtual 218, 3) := by decide +kernel
theorem dM_decode_149 : decode bM_decode 149 = .ok (.iinc 3 1, 3) := by decide +kernel
theorem dM_decode_152 : decode bM_decode 152 = .ok (.goto (-25), 3) := by decide +kernel
theorem dM_decode_155 : decode bM_decode 155 = .ok (.iload_n 2, 1) := by decide +kernel
theorem dM_decode_156 : decode bM_decode 156 = .ok (.ireturn, 1) := by decide +kernel
theorem dM_size_0 : decode bM_size 0 = .ok (.aload_n 0, 1) := by decide +kernel
theorem dM_size_1 : decode bM_size 1 = .ok (.getfield 155, 3) := by decide +kernel
theorem dM_size_4 : decode bM_size 4 = .ok (.ireturn, 1) := by decide +kernel
theorem dM_byteAt_0 : decode bM_byteAt 0 = .ok (.iload_n 1, 1) := by decide +kernel
theorem dM_byteAt_1 : decode bM_byteAt 1 = .ok (.ifCond .lt 11, 3) := by decide +kernel
theorem dM_byteAt_4 : decode bM_byteAt 4 = .ok (.iload_n 1, 1) := by decide +kernel
theorem dM_byteAt_5 : decode bM_byteAt 5 = .ok (.aload_n 0, 1) := by decide +kernel
theorem dM_byteAt_6 : decode bM_byteAt 6 = .ok (.getfield 155, 3) := by decide +kernel
theorem dM_byteAt_9 : decode bM_byteAt 9 = .ok (.if_icmp .lt 7, 3) := by decide +kernel
theorem dM_byteAt_12 : decode bM_byteAt 12 = .ok (.iconst (-1), 1) := by decide +kernel
theorem dM_byteAt_13 : decode bM_byteAt 13 = .ok (.goto 9, 3) := by decide +kernel
theorem dM_byteAt_16 : decode bM_byteAt 16 = .ok (.aload_n 0, 1) := by decide +kernel
theorem dM_byteAt_17 : decode bM_byteAt 17 = .ok (.getfield 32, 3) := by decide +kernel
theorem dM_byteAt_20 : decode bM_byteAt 20 = .ok (.iload_n 1, 1) := by decide +kernel
theorem dM_byteAt_21 : decode bM_byteAt 21 = .ok (.iaload, 1) := by decide +kernel
theorem dM_byteAt_22 : decode bM_byteAt 22 = .ok (.ireturn, 1) := by decide +kernel
theorem dM_poke_0 : decode bM_poke 0 = .ok (.iload_n 1, 1) := by decide +kernel
theorem dM_poke_1 : decode bM_poke 1 = .ok (.ifCond .lt 28, 3) := by decide +kernel
theorem dM_poke_4 : decode bM_poke 4 = .ok (.iload_n 1, 1) := by decide +kernel
theorem dM_poke_5 : decode bM_poke 5 = .ok (.aload_n 0, 1) := by decide +kernel
theorem dM_poke_6 : decode bM_poke 6 = .ok (.getfield 155, 3) := by decide +kernel
theorem dM_poke_9 : decode bM_poke 9 = .ok (.if_icmp .gt 20, 3) := by decide +kernel
theorem dM_poke_12 : decode bM_poke 12 = .ok (.iload_n 2, 1) := by decide +kernel
theorem dM_poke_13 : decode bM_poke 13 = .ok (.ifCond .lt 16, 3) := by decide +kernel
theorem dM_poke_16 : decode bM_poke 16 = .ok (.iload_n 2, 1) := by decide +kernel
theorem dM_poke_17 : decode bM_poke 17 = .ok (.sipush 255, 3) := by decide +kernel
theorem dM_poke_20 : decode bM_poke 20 = .ok (.if_icmp .gt 9, 3) := by decide +kernel
theorem dM_poke_23 : decode bM_poke 23 = .ok (.iload_n 1, 1) := by decide +kernel
theorem dM_poke_24 : decode bM_poke 24 = .ok (.bipush 120, 2) := by decide +kernel
theorem dM_poke_26 : decode bM_poke 26 = .ok (.if_icmp .lt 5, 3) := by decide +kernel
theorem dM_poke_29 : decode bM_poke 29 = .ok (.iconst 0, 1) := by decide +kernel
theorem dM_poke_30 : decode bM_poke 30 = .ok (.ireturn, 1) := by decide +kernel
theorem dM_poke_31 : decode bM_poke 31 = .ok (.aload_n 0, 1) := by decide +kernel
theorem dM_poke_32 : decode bM_poke 32 = .ok (.getfield 32, 3) := by decide +kernel
theorem dM_poke_35 : decode bM_poke 35 = .ok (.iload_n 1, 1) := by decide +kernel
theorem dM_poke_36 : decode bM_poke 36 = .ok (.iload_n 2, 1) := by decide +kernel
theorem dM_poke_37 : decode bM_poke 37 = .ok (.iastore, 1) := by decide +kernel
theorem dM_poke_38 : decode bM_poke 38 = .ok (.aload_n 0, 1) := by decide +kernel
theorem dM_poke_39 : decode bM_poke 39 = .ok (.iload_n 1, 1) := by decide +kernel
theorem dM_poke_40 : decode bM_poke 40 = .ok (.aload_n 0, 1) := by decide +kernel
theorem dM_poke_41 : decode bM_poke 41 = .ok (.getfield 155, 3) := by decide +kernel
theorem dM_poke_44 : decode bM_poke 44 = .ok (.if_icmp .ne 12, 3) := by decide +kernel
theorem dM_poke_47 : decode bM_poke 47 = .ok (.aload_n 0, 1) := by decide +kernel
theorem dM_poke_48 : decode bM_poke 48 = .ok (.getfield 155, 3) := by decide +kernel
theorem dM_poke_51 : decode bM_poke 51 = .ok (.iconst 1, 1) := by decide +kernel
theorem dM_poke_52 : decode bM_poke 52 = .ok (.iadd, 1) := by decide +kernel
theorem dM_poke_53 : decode bM_poke 53 = .ok (.goto 7, 3) := by decide +kernel
theorem dM_poke_56 : decode bM_poke 56 = .ok (.aload_n 0, 1) := by decide +kernel
theorem dM_poke_57 : decode bM_poke 57 = .ok (.getfield 155, 3) := by decide +kernel
theorem dM_poke_60 : decode bM_poke 60 = .ok (.putfield 155, 3) := by decide +kernel
theorem dM_poke_63 : decode bM_poke 63 = .ok (.iconst 1, 1) := by decide +kernel
theorem dM_poke_64 : decode bM_poke 64 = .ok (.ireturn, 1) := by decide +kernel
theorem dM_cut_0 : decode bM_cut 0 = .ok (.iload_n 1, 1) := by decide +kernel
theorem dM_cut_1 : decode bM_cut 1 = .ok (.ifCond .lt 11, 3) := by decide +kernel
theorem dM_cut_4 : decode bM_cut 4 = .ok (.iload_n 1, 1) := by decide +kernel
theorem dM_cut_5 : decode bM_cut 5 = .ok (.aload_n 0, 1) := by decide +kernel
theorem dM_cut_6 : decode bM_cut 6 = .ok (.getfield 155, 3) := by decide +kernel
theorem dM_cut_9 : decode bM_cut 9 = .ok (.if_icmp .le 5, 3) := by decide +kernel
theorem dM_cut_12 : decode bM_cut 12 = .ok (.iconst 0, 1) := by decide +kernel
theorem dM_cut_13 : decode bM_cut 13 = .ok (.ireturn, 1) := by decide +kernel
theorem dM_cut_14 : decode bM_cut 14 = .ok (.aload_n 0, 1) := by decide +kernel
theorem dM_cut_15 : decode bM_cut 15 = .ok (.iload_n 1, 1) := by decide +kernel
theorem dM_cut_16 : decode bM_cut 16 = .ok (.putfield 155, 3) := by decide +kernel
theorem dM_cut_19 : decode bM_cut 19 = .ok (.iconst 1, 1) := by decide +kernel
theorem dM_cut_20 : decode bM_cut 20 = .ok (.ireturn, 1) := by decide +kernel
theorem dM_isOf_0 : decode bM_isOf 0 = .ok (.aload_n 0, 1) := by decide +kernel
theorem dM_isOf_1 : decode bM_isOf 1 = .ok (.iload_n 2, 1) := by decide +kernel
theorem dM_isOf_2 : decode bM_isOf 2 = .ok (.aload_n 0, 1) := by decide +kernel
theorem dM_isOf_3 : decode bM_isOf 3 = .ok (.getfield 13, 3) := by decide +kernel
theorem dM_isOf_6 : decode bM_isOf 6 = .ok (.iload_n 1, 1) := by decide +kernel
theorem dM_isOf_7 : decode bM_isOf 7 = .ok (.iaload, 1) := by decide +kernel
theorem dM_isOf_8 : decode bM_isOf 8 = .ok (.invokevirtual 84, 3) := by decide +kernel
theorem dM_isOf_11 : decode bM_isOf 11 = .ok (.ireturn, 1) := by decide +kernel
theorem dM_find_0 : decode bM_find 0 = .ok (.iconst (-1), 1) := by decide +kernel
theorem dM_find_1 : decode bM_find 1 = .ok (.istore_n 3, 1) := by decide +kernel
theorem dM_find_2 : decode bM_find 2 = .ok (.iconst 0, 1) := by decide +kernel
theorem dM_find_3 : decode bM_find 3 = .ok (.istore 4, 2) := by decide +kernel
theorem dM_find_5 : decode bM_find 5 = .ok (.iload 4, 2) := by decide +kernel
theorem dM_find_7 : decode bM_find 7 = .ok (.aload_n 0, 1) := by decide +kernel
theorem dM_find_8 : decode bM_find 8 = .ok (.getfield 88, 3) := by decide +kernel
theorem dM_find_11 : decode bM_find 11 = .ok (.if_icmp .ge 37, 3) := by decide +kernel
theorem dM_find_14 : decode bM_find 14 = .ok (.aload_n 0, 1) := by decide +kernel
theorem dM_find_15 : decode bM_find 15 = .ok (.iload 4, 2) := by decide +kernel
theorem dM_find_17 : decode bM_find 17 = .ok (.iload_n 1, 1) := by decide +kernel
theorem dM_find_18 : decode bM_find 18 = .ok (.invokevirtual 91, 3) := by decide +kernel
theorem dM_find_21 : decode bM_find 21 = .ok (.ifCond .eq 19, 3) := by decide +kernel
theorem dM_find_24 : decode bM_find 24 = .ok (.aload_n 0, 1) := by decide +kernel
theorem dM_find_25 : decode bM_find 25 = .ok (.getfield 16, 3) := by decide +kernel
theorem dM_find_28 : decode bM_find 28 = .ok (.iload 4, 2) := by decide +kernel
theorem dM_find_30 : decode bM_find 30 = .ok (.iaload, 1) := by decide +kernel
theorem dM_find_31 : decode bM_find 31 = .ok (.iload_n 2, 1) := by decide +kernel
theorem dM_find_32 : decode bM_find 32 = .ok (.if_icmp .ne 8, 3) := by decide +kernel
theorem dM_find_35 : decode bM_find 35 = .ok (.iload 4, 2) := by decide +kernel
theorem dM_find_37 : decode bM_find 37 = .ok (.goto 4, 3) := by decide +kernel
theorem dM_find_40 : decode bM_find 40 = .ok (.iload_n 3, 1) := by decide +kernel
theorem dM_find_41 : decode bM_find 41 = .ok (.istore_n 3, 1) := by decide +kernel
theorem dM_find_42 : decode bM_find 42 = .ok (.iinc 4 1, 3) := by decide +kernel
theorem dM_find_45 : decode bM_find 45 = .ok (.goto (-40), 3) := by decide +kernel
theorem dM_find_48 : decode bM_find 48 = .ok (.iload_n 3, 1) := by decide +kernel
theorem dM_find_49 : decode bM_find 49 = .ok (.ireturn, 1) := by decide +kernel
theorem dM_nth_0 : decode bM_nth 0 = .ok (.iload_n 2, 1) := by decide +kernel
theorem dM_nth_1 : decode bM_nth 1 = .ok (.istore_n 3, 1) := by decide +kernel
theorem dM_nth_2 : decode bM_nth 2 = .ok (.iconst 0, 1) := by decide +kernel
theorem dM_nth_3 : decode bM_nth 3 = .ok (.istore 4, 2) := by decide +kernel
theorem dM_nth_5 : decode bM_nth 5 = .ok (.iload 4, 2) := by decide +kernel
theorem dM_nth_7 : decode bM_nth 7 = .ok (.aload_n 0, 1) := by decide +kernel
theorem dM_nth_8 : decode bM_nth 8 = .ok (.getfield 80, 3) := by decide +kernel
theorem dM_nth_11 : decode bM_nth 11 = .ok (.if_icmp .ge 59, 3) := by decide +kernel
theorem dM_nth_14 : decode bM_nth 14 = .ok (.iconst 0, 1) := by decide +kernel
theorem dM_nth_15 : decode bM_nth 15 = .ok (.istore 5, 2) := by decide +kernel
theorem dM_nth_17 : decode bM_nth 17 = .ok (.iload 5, 2) := by decide +kernel
theorem dM_nth_19 : decode bM_nth 19 = .ok (.aload_n 0, 1) := by decide +kernel
theorem dM_nth_20 : decode bM_nth 20 = .ok (.getfield 88, 3) := by decide +kernel
theorem dM_nth_23 : decode bM_nth 23 = .ok (.if_icmp .ge 41, 3) := by decide +kernel
theorem dM_nth_26 : decode bM_nth 26 = .ok (.aload_n 0, 1) := by decide +kernel
theorem dM_nth_27 : decode bM_nth 27 = .ok (.getfield 13, 3) := by decide +kernel
theorem dM_nth_30 : decode bM_nth 30 = .ok (.iload 5, 2) := by decide +kernel
theorem dM_nth_32 : decode bM_nth 32 = .ok (.iaload, 1) := by decide +kernel
theorem dM_nth_33 : decode bM_nth 33 = .ok (.iload 4, 2) := by decide +kernel
theorem dM_nth_35 : decode bM_nth 35 = .ok (.if_icmp .ne 23, 3) := by decide +kernel
theorem dM_nth_38 : decode bM_nth 38 = .ok (.aload_n 0, 1) := by decide +kernel
theorem dM_nth_39 : decode bM_nth 39 = .ok (.iload 5, 2) := by decide +kernel
theorem dM_nth_41 : decode bM_nth 41 = .ok (.iload_n 1, 1) := by decide +kernel
theorem dM_nth_42 : decode bM_nth 42 = .ok (.invokevirtual 91, 3) := by decide +kernel
theorem dM_nth_45 : decode bM_nth 45 = .ok (.ifCond .eq 13, 3) := by decide +kernel
theorem dM_nth_48 : decode bM_nth 48 = .ok (.iload_n 3, 1) := by decide +kernel
theorem dM_nth_49 : decode bM_nth 49 = .ok (.ifCond .ne 6, 3) := by decide +kernel
theorem dM_nth_52 : decode bM_nth 52 = .ok (.iload 5, 2) := by decide +kernel
theorem dM_nth_54 : decode bM_nth 54 = .ok (.ireturn, 1) := by decide +kernel
theorem dM_nth_55 : decode bM_nth 55 = .ok (.iinc 3 (-1), 3) := by decide +kernel
theorem dM_nth_58 : decode bM_nth 58 = .ok (.iinc 5 1, 3) := by decide +kernel
theorem dM_nth_61 : decode bM_nth 61 = .ok (.goto (-44), 3) := by decide +kernel
theorem dM_nth_64 : decode bM_nth 64 = .ok (.iinc 4 1, 3) := by decide +kernel
theorem dM_nth_67 : decode bM_nth 67 = .ok (.goto (-62), 3) := by decide +kernel
theorem dM_nth_70 : decode bM_nth 70 = .ok (.iconst (-1), 1) := by decide +kernel
theorem dM_nth_71 : decode bM_nth 71 = .ok (.ireturn, 1) := by decide +kernel
theorem dM_define_0 : decode bM_define 0 = .ok (.iload_n 1, 1) := by decide +kernel
theorem dM_define_1 : decode bM_define 1 = .ok (.iconst (-1), 1) := by decide +kernel
theorem dM_define_2 : decode bM_define 2 = .ok (.if_icmp .eq 11, 3) := by decide +kernel
theorem dM_define_5 : decode bM_define 5 = .ok (.aload_n 0, 1) := by decide +kernel
theorem dM_define_6 : decode bM_define 6 = .ok (.iload_n 1, 1) := by decide +kernel
theorem dM_define_7 : decode bM_define 7 = .ok (.invokevirtual 94, 3) := by decide +kernel
theorem dM_define_10 : decode bM_define 10 = .ok (.ifCond .eq 19, 3) := by decide +kernel
theorem dM_define_13 : decode bM_define 13 = .ok (.aload_n 0, 1) := by decide +kernel
theorem dM_define_14 : decode bM_define 14 = .ok (.getfield 80, 3) := by decide +kernel
theorem dM_define_17 : decode bM_define 17 = .ok (.bipush 6, 2) := by decide +kernel
theorem dM_define_19 : decode bM_define 19 = .ok (.if_icmp .ge 10, 3) := by decide +kernel
theorem dM_define_22 : decode bM_define 22 = .ok (.aload_n 0, 1) := by decide +kernel
theorem dM_define_23 : decode bM_define 23 = .ok (.getfield 98, 3) := by decide +kernel
theorem dM_define_26 : decode bM_define 26 = .ok (.ifCond .le 5, 3) := by decide +kernel
theorem dM_define_29 : decode bM_define 29 = .ok (.iconst (-1), 1) := by decide +kernel
theorem dM_define_30 : decode bM_define 30 = .ok (.ireturn, 1) := by decide +kernel
theorem dM_define_31 : decode bM_define 31 = .ok (.aload_n 0, 1) := by decide +kernel
theorem dM_define_32 : decode bM_define 32 = .ok (.getfield 7, 3) := by decide +kernel
theorem dM_define_35 : decode bM_define 35 = .ok (.aload_n 0, 1) := by decide +kernel
theorem dM_define_36 : decode bM_define 36 = .ok (.getfield 80, 3) := by decide +kernel
theorem dM_define_39 : decode bM_define 39 = .ok (.iload_n 1, 1) := by decide +kernel
theorem dM_define_40 : decode bM_define 40 = .ok (.iastore, 1) := by decide +kernel
theorem dM_define_41 : decode bM_define 41 = .ok (.aload_n 0, 1) := by decide +kernel
theorem dM_define_42 : decode bM_define 42 = .ok (.dup, 1) := by decide +kernel
theorem dM_define_43 : decode bM_define 43 = .ok (.getfield 80, 3) := by decide +kernel
theorem dM_define_46 : decode bM_define 46 = .ok (.iconst 1, 1) := by decide +kernel
theorem dM_define_47 : decode bM_define 47 = .ok (.iadd, 1) := by decide +kernel
theorem dM_define_48 : decode bM_define 48 = .ok (.putfield 80, 3) := by decide +kernel
theorem dM_define_51 : decode bM_define 51 = .ok (.aload_n 0, 1) := by decide +kernel
theorem dM_define_52 : decode bM_define 52 = .ok (.getfield 80, 3) := by decide +kernel
theorem dM_define_55 : decode bM_define 55 = .ok (.iconst 1, 1) := by decide +kernel
theorem dM_define_56 : decode bM_define 56 = .ok (.isub, 1) := by decide +kernel
theorem dM_define_57 : decode bM_define 57 = .ok (.ireturn, 1) := by decide +kernel
theorem dM_property_0 : decode bM_property 0 = .ok (.aload_n 0, 1) := by decide +kernel
theorem dM_property_1 : decode bM_property 1 = .ok (.iload_n 1, 1) := by decide +kernel
theorem dM_property_2 : decode bM_property 2 = .ok (.invokevirtual 94, 3) := by decide +kernel
theorem dM_property_5 : decode bM_property 5 = .ok (.ifCond .eq 36, 3) := by decide +kernel
theorem dM_property_8 : decode bM_property 8 = .ok (.iload_n 2, 1) := by decide +kernel
theorem dM_property_9 : decode bM_property 9 = .ok (.ifCond .lt 32, 3) := by decide +kernel
theorem dM_property_12 : decode bM_property 12 = .ok (.iload_n 2, 1) := by decide +kernel
theorem dM_property_13 : decode bM_property 13 = .ok (.bipush 25, 2) := by decide +kernel
theorem dM_property_15 : decode bM_property 15 = .ok (.if_icmp .gt 26, 3) := by decide +kernel
theorem dM_property_18 : decode bM_property 18 = .ok (.iload_n 3, 1) := by decide +kernel
theorem dM_property_19 : decode bM_property 19 = .ok (.ifCond .lt 22, 3) := by decide +kernel
theorem dM_property_22 : decode bM_property 22 = .ok (.iload_n 3, 1) := by decide +kernel
theorem dM_property_23 : decode bM_property 23 = .ok (.iconst 3, 1) := by decide +kernel
theorem dM_property_24 : decode bM_property 24 = .ok (.if_icmp .gt 17, 3) := by decide +kernel
theorem dM_property_27 : decode bM_property 27 = .ok (.iload_n 3, 1) := by decide +kernel
theorem dM_property_28 : decode bM_property 28 = .ok (.iconst 3, 1) := by decide +kernel
theorem dM_property_29 : decode bM_property 29 = .ok (.if_icmp .ne 14, 3) := by decide +kernel
theorem dM_property_32 : decode bM_property 32 = .ok (.aload_n 0, 1) := by decide +kernel
theorem dM_property_33 : decode bM_property 33 = .ok (.iload 4, 2) := by decide +kernel
theorem dM_property_35 : decode bM_property 35 = .ok (.invokevirtual 94, 3) := by decide +kernel
theorem dM_property_38 : decode bM_property 38 = .ok (.ifCond .ne 5, 3) := by decide +kernel
theorem dM_property_41 : decode bM_property 41 = .ok (.iconst 0, 1) := by decide +kernel
theorem dM_property_42 : decode bM_property 42 = .ok (.ireturn, 1) := by decide +kernel
theorem dM_property_43 : decode bM_property 43 = .ok (.aload_n 0, 1) := by decide +kernel
theorem dM_property_44 : decode bM_property 44 = .ok (.getfield 88, 3) := by decide +kernel
theorem dM_property_47 : decode bM_property 47 = .ok (.bipush 8, 2) := by decide +kernel
theorem dM_property_49 : decode bM_property 49 = .ok (.if_icmp .ge 10, 3) := by decide +kernel
theorem dM_property_52 : decode bM_property 52 = .ok (.aload_n 0, 1) := by decide +kernel
theorem dM_property_53 : decode bM_property 53 = .ok (.getfield 98, 3) := by decide +kernel
theorem dM_property_56 : decode bM_property 56 = .ok (.ifCond .le 5, 3) := by decide +kernel
theorem dM_property_59 : decode bM_property 59 = .ok (.iconst 0, 1) := by decide +kernel
theorem dM_property_60 : decode bM_property 60 = .ok (.ireturn, 1) := by decide +kernel
theorem dM_property_61 : decode bM_property 61 = .ok (.iconst 0, 1) := by decide +kernel
theorem dM_property_62 : decode bM_property 62 = .ok (.istore 5, 2) := by decide +kernel
theorem dM_property_64 : decode bM_property 64 = .ok (.iload 5, 2) := by decide +kernel
theorem dM_property_66 : decode bM_property 66 = .ok (.aload_n 0, 1) := by decide +kernel
theorem dM_property_67 : decode bM_property 67 = .ok (.getfield 80, 3) := by decide +kernel
theorem dM_property_70 : decode bM_property 70 = .ok (.if_icmp .ge 31, 3) := by decide +kernel
theorem dM_property_73 : decode bM_property 73 = .ok (.aload_n 0, 1) := by decide +kernel
theorem dM_property_74 : decode bM_property 74 = .ok (.iload 5, 2) := by decide +kernel
theorem dM_property_76 : decode bM_property 76 = .ok (.iload_n 1, 1) := by decide +kernel
theorem dM_property_77 : decode bM_property 77 = .ok (.invokevirtual 84, 3) := by decide +kernel
theorem dM_property_80 : decode bM_property 80 = .ok (.ifCond .eq 15, 3) := by decide +kernel
theorem dM_property_83 : decode bM_property 83 = .ok (.aload_n 0, 1) := by decide +kernel
theorem dM_property_84 : decode bM_property 84 = .ok (.iload 5, 2) := by decide +kernel
theorem dM_property_86 : decode bM_property 86 = .ok (.iload_n 2, 1) := by decide +kernel
theorem dM_property_87 : decode bM_property 87 = .ok (.invokevirtual 101, 3) := by decide +kernel
theorem dM_property_90 : decode bM_property 90 = .ok (.ifCond .lt 5, 3) := by decide +kernel
theorem dM_property_93 : decode bM_property 93 = .ok (.iconst 0, 1) := by decide +kernel
theorem dM_property_94 : decode bM_property 94 = .ok (.ireturn, 1) := by decide +kernel
theorem dM_property_95 : decode bM_property 95 = .ok (.iinc 5 1, 3) := by decide +kernel
theorem dM_property_98 : decode bM_property 98 = .ok (.goto (-34), 3) := by decide +kernel
theorem dM_property_101 : decode bM_property 101 = .ok (.aload_n 0, 1) := by decide +kernel
theorem dM_property_102 : decode bM_property 102 = .ok (.getfield 13, 3) := by decide +kernel
theorem dM_property_105 : decode bM_property 105 = .ok (.aload_n 0, 1) := by decide +kernel
theorem dM_property_106 : decode bM_property 106 = .ok (.getfield 88, 3) := by decide +kernel
theorem dM_property_109 : decode bM_property 109 = .ok (.iload_n 1, 1) := by decide +kernel
theorem dM_property_110 : decode bM_property 110 = .ok (.iastore, 1) := by decide +kernel
theorem dM_property_111 : decode bM_property 111 = .ok (.aload_n 0, 1) := by decide +kernel
theorem dM_property_112 : decode bM_property 112 = .ok (.getfield 16, 3) := by decide +kernel
theorem dM_property_115 : decode bM_property 115 = .ok (.aload_n 0, 1) := by decide +kernel
theorem dM_property_116 : decode bM_property 116 = .ok (.getfield 88, 3) := by decide +kernel
theorem dM_property_119 : decode bM_property 119 = .ok (.iload_n 2, 1) := by decide +kernel
theorem dM_property_120 : decode bM_property 120 = .ok (.iastore, 1) := by decide +kernel
theorem dM_property_121 : decode bM_property 121 = .ok (.aload_n 0, 1) := by decide +kernel
theorem dM_property_122 : decode bM_property 122 = .ok (.getfield 19, 3) := by decide +kernel
theorem dM_property_125 : decode bM_property 125 = .ok (.aload_n 0, 1) := by decide +kernel
theorem dM_property_126 : decode bM_property 126 = .ok (.getfield 88, 3) := by decide +kernel
theorem dM_property_129 : decode bM_property 129 = .ok (.iload_n 3, 1) := by decide +kernel
theorem dM_property_130 : decode bM_property 130 = .ok (.iastore, 1) := by decide +kernel
theorem dM_property_131 : decode bM_property 131 = .ok (.aload_n 0, 1) := by decide +kernel
theorem dM_property_132 : decode bM_property 132 = .ok (.getfield 22, 3) := by decide +kernel
theorem dM_property_135 : decode bM_property 135 = .ok (.aload_n 0, 1) := by decide +kernel
theorem dM_property_136 : decode bM_property 136 = .ok (.getfield 88, 3) := by decide +kernel
theorem dM_property_139 : decode bM_property 139 = .ok (.iload 4, 2) := by decide +kernel
theorem dM_property_141 : decode bM_property 141 = .ok (.iastore, 1) := by decide +kernel
theorem dM_property_142 : decode bM_property 142 = .ok (.aload_n 0, 1) := by decide +kernel
theorem dM_property_143 : decode bM_property 143 = .ok (.dup, 1) := by decide +kernel
theorem dM_property_144 : decode bM_property 144 = .ok (.getfield 88, 3) := by decide +kernel
theorem dM_property_147 : decode bM_property 147 = .ok (.iconst 1, 1) := by decide +kernel
theorem dM_property_148 : decode bM_property 148 = .ok (.iadd, 1) := by decide +kernel
theorem dM_property_149 : decode bM_property 149 = .ok (.putfield 88, 3) := by decide +kernel
theorem dM_property_152 : decode bM_property 152 = .ok (.iconst 1, 1) := by decide +kernel
theorem dM_property_153 : decode bM_property 153 = .ok (.ireturn, 1) := by decide +kernel
theorem dM_isObject_0 : decode bM_isObject 0 = .ok (.iload_n 1, 1) := by decide +kernel
theorem dM_isObject_1 : decode bM_isObject 1 = .ok (.ifCond .lt 15, 3) := by decide +kernel
theorem dM_isObject_4 : decode bM_isObject 4 = .ok (.iload_n 1, 1) := by decide +kernel
theorem dM_isObject_5 : decode bM_isObject 5 = .ok (.aload_n 0, 1) := by decide +kernel
theorem dM_isObject_6 : decode bM_isObject 6 = .ok (.getfield 98, 3) := by decide +kernel
theorem dM_isObject_9 : decode bM_isObject 9 = .ok (.if_icmp .ge 7, 3) := by decide +kernel
theorem dM_isObject_12 : decode bM_isObject 12 = .ok (.iconst 1, 1) := by decide +kernel
theorem dM_isObject_13 : decode bM_isObject 13 = .ok (.goto 4, 3) := by decide +kernel
theorem dM_isObject_16 : decode bM_isObject 16 = .ok (.iconst 0, 1) := by decide +kernel
theorem dM_isObject_17 : decode bM_isObject 17 = .ok (.ireturn, 1) := by decide +kernel
end
section
/-! decode rows of class PropertyDocuments$Outline: laid by wip/gen/names.py -/
theorem dO_content_0 : decode bO_content 0 = .ok (.aload_n 0, 1) := by decide +kernel
theorem dO_content_1 : decode bO_content 1 = .ok (.iload_n 1, 1) := by decide +kernel
theorem dO_content_2 : decode bO_content 2 = .ok (.invokevirtual 79, 3) := by decide +kernel
theorem dO_content_5 : decode bO_content 5 = .ok (.ifCond .eq 12, 3) := by decide +kernel
theorem dO_content_8 : decode bO_content 8 = .ok (.aload_n 0, 1) := by decide +kernel
theorem dO_content_9 : decode bO_content 9 = .ok (.getfield 18, 3) := by decide +kernel
theorem dO_content_12 : decode bO_content 12 = .ok (.iload_n 1, 1) := by decide +kernel
theorem dO_content_13 : decode bO_content 13 = .ok (.iaload, 1) := by decide +kernel
theorem dO_content_14 : decode bO_content 14 = .ok (.goto 4, 3) := by decide +kernel
theorem dO_content_17 : decode bO_content 17 = .ok (.iconst (-1), 1) := by decide +kernel
theorem dO_content_18 : decode bO_content 18 = .ok (.ireturn, 1) := by decide +kernel
theorem dO_holder_0 : decode bO_holder 0 = .ok (.aload_n 0, 1) := by decide +kernel
theorem dO_holder_1 : decode bO_holder 1 = .ok (.iload_n 1, 1) := by decide +kernel
theorem dO_holder_2 : decode bO_holder 2 = .ok (.invokevirtual 79, 3) := by decide +kernel
theorem dO_holder_5 : decode bO_holder 5 = .ok (.ifCond .eq 12, 3) := by decide +kernel
theorem dO_holder_8 : decode bO_holder 8 = .ok (.aload_n 0, 1) := by decide +kernel
theorem dO_holder_9 : decode bO_holder 9 = .ok (.getfield 21, 3) := by decide +kernel
theorem dO_holder_12 : decode bO_holder 12 = .ok (.iload_n 1, 1) := by decide +kernel
theorem dO_holder_13 : decode bO_holder 13 = .ok (.iaload, 1) := by decide +kernel
theorem dO_holder_14 : decode bO_holder 14 = .ok (.goto 4, 3) := by decide +kernel
theorem dO_holder_17 : decode bO_holder 17 = .ok (.iconst (-1), 1) := by decide +kernel
theorem dO_holder_18 : decode bO_holder 18 = .ok (.ireturn, 1) := by decide +kernel
theorem dO_inner_0 : decode bO_inner 0 = .ok (.aload_n 0, 1) := by decide +kernel
theorem dO_inner_1 : decode bO_inner 1 = .ok (.iload_n 1, 1) := by decide +kernel
theorem dO_inner_2 : decode bO_inner 2 = .ok (.invokevirtual 79, 3) := by decide +kernel
theorem dO_inner_5 : decode bO_inner 5 = .ok (.ifCond .eq 12, 3) := by decide +kernel
theorem dO_inner_8 : decode bO_inner 8 = .ok (.aload_n 0, 1) := by decide +kernel
theorem dO_inner_9 : decode bO_inner 9 = .ok (.getfield 24, 3) := by decide +kernel
theorem dO_inner_12 : decode bO_inner 12 = .ok (.iload_n 1, 1) := by decide +kernel
theorem dO_inner_13 : decode bO_inner 13 = .ok (.iaload, 1) := by decide +kernel
theorem dO_inner_14 : decode bO_inner 14 = .ok (.goto 4, 3) := by decide +kernel
theorem dO_inner_17 : decode bO_inner 17 = .ok (.iconst (-1), 1) := by decide +kernel
theorem dO_inner_18 : decode bO_inner 18 = .ok (.ireturn, 1) := by decide +kernel
theorem dO_isMark_0 : decode bO_isMark 0 = .ok (.aload_n 0, 1) := by decide +kernel
theorem dO_isMark_1 : decode bO_isMark 1 = .ok (.iload_n 1, 1) := by decide +kernel
theorem dO_isMark_2 : decode bO_isMark 2 = .ok (.iconst 0, 1) := by decide +kernel
theorem dO_isMark_3 : decode bO_isMark 3 = .ok (.invokevirtual 83, 3) := by decide +kernel
theorem dO_isMark_6 : decode bO_isMark 6 = .ok (.bipush 95, 2) := by decide +kernel
theorem dO_isMark_8 : decode bO_isMark 8 = .ok (.if_icmp .ne 27, 3) := by decide +kernel
theorem dO_isMark_11 : decode bO_isMark 11 = .ok (.aload_n 0, 1) := by decide +kernel
theorem dO_isMark_12 : decode bO_isMark 12 = .ok (.iload_n 1, 1) := by decide +kernel
theorem dO_isMark_13 : decode bO_isMark 13 = .ok (.iconst 1, 1) := by decide +kernel
theorem dO_isMark_14 : decode bO_isMark 14 = .ok (.invokevirtual 83, 3) := by decide +kernel
theorem dO_isMark_17 : decode bO_isMark 17 = .ok (.bipush 116, 2) := by decide +kernel
theorem dO_isMark_19 : decode bO_isMark 19 = .ok (.if_icmp .ne 16, 3) := by decide +kernel
theorem dO_isMark_22 : decode bO_isMark 22 = .ok (.aload_n 0, 1) := by decide +kernel
theorem dO_isMark_23 : decode bO_isMark 23 = .ok (.iload_n 1, 1) := by decide +kernel
theorem dO_isMark_24 : decode bO_isMark 24 = .ok (.iconst 2, 1) := by decide +kernel
theorem dO_isMark_25 : decode bO_isMark 25 = .ok (.invokevirtual 83, 3) := by decide +kernel
theorem dO_isMark_28 : decode bO_isMark 28 = .ok (.ifCond .ne 7, 3) := by decide +kernel
theorem dO_isMark_31 : decode bO_isMark 31 = .ok (.iconst 1, 1) := by decide +kernel
theorem dO_isMark_32 : decode bO_isMark 32 = .ok (.goto 4, 3) := by decide +kernel
theorem dO_isMark_35 : decode bO_isMark 35 = .ok (.iconst 0, 1) := by decide +kernel
theorem dO_isMark_36 : decode bO_isMark 36 = .ok (.ireturn, 1) := by decide +kernel
theorem dO_letter_0 : decode bO_letter 0 = .ok (.aload_n 0, 1) := by decide +kernel
theorem dO_letter_1 : decode bO_letter 1 = .ok (.iload_n 1, 1) := by decide +kernel
theorem dO_letter_2 : decode bO_letter 2 = .ok (.iconst 0, 1) := by decide +kernel
theorem dO_letter_3 : decode bO_letter 3 = .ok (.invokevirtual 83, 3) := by decide +kernel
theorem dO_letter_6 : decode bO_letter 6 = .ok (.ifCond .le 16, 3) := by decide +kernel
theorem dO_letter_9 : decode bO_letter 9 = .ok (.aload_n 0, 1) := by decide +kernel
theorem dO_letter_10 : decode bO_letter 10 = .ok (.iload_n 1, 1) := by decide +kernel
theorem dO_letter_11 : decode bO_letter 11 = .ok (.iconst 1, 1) := by decide +kernel
theorem dO_letter_12 : decode bO_letter 12 = .ok (.invokevirtual 83, 3) := by decide +kernel
theorem dO_letter_15 : decode bO_letter 15 = .ok (.ifCond .ne 7, 3) := by decide +kernel
theorem dO_letter_18 : decode bO_letter 18 = .ok (.iconst 1, 1) := by decide +kernel
theorem dO_letter_19 : decode bO_letter 19 = .ok (.goto 4, 3) := by decide +kernel
theorem dO_letter_22 : decode bO_letter 22 = .ok (.iconst 0, 1) := by decide +kernel
theorem dO_letter_23 : decode bO_letter 23 = .ok (.istore_n 2, 1) := by decide +kernel
theorem dO_letter_24 : decode bO_letter 24 = .ok (.iload_n 2, 1) := by decide +kernel
theorem dO_letter_25 : decode bO_letter 25 = .ok (.ifCond .eq 15, 3) := by decide +kernel
theorem dO_letter_28 : decode bO_letter 28 = .ok (.aload_n 0, 1) := by decide +kernel
theorem dO_letter_29 : decode bO_letter 29 = .ok (.iload_n 1, 1) := by decide +kernel
theorem dO_letter_30 : decode bO_letter 30 = .ok (.iconst 0, 1) := by decide +kernel
theorem dO_letter_31 : decode bO_letter 31 = .ok (.invokevirtual 83, 3) := by decide +kernel
theorem dO_letter_34 : decode bO_letter 34 = .ok (.bipush 97, 2) := by decide +kernel
theorem dO_letter_36 : decode bO_letter 36 = .ok (.isub, 1) := by decide +kernel
theorem dO_letter_37 : decode bO_letter 37 = .ok (.goto 4, 3) := by decide +kernel
theorem dO_letter_40 : decode bO_letter 40 = .ok (.iconst (-1), 1) := by decide +kernel
theorem dO_letter_41 : decode bO_letter 41 = .ok (.ireturn, 1) := by decide +kernel
theorem dO_nameByte_0 : decode bO_nameByte 0 = .ok (.aload_n 0, 1) := by decide +kernel
theorem dO_nameByte_1 : decode bO_nameByte 1 = .ok (.iload_n 1, 1) := by decide +kernel
theorem dO_nameByte_2 : decode bO_nameByte 2 = .ok (.invokevirtual 79, 3) := by decide +kernel
theorem dO_nameByte_5 : decode bO_nameByte 5 = .ok (.ifCond .eq 21, 3) := by decide +kernel
theorem dO_nameByte_8 : decode bO_nameByte 8 = .ok (.aload_n 0, 1) := by decide +kernel
theorem dO_nameByte_9 : decode bO_nameByte 9 = .ok (.getfield 37, 3) := by decide +kernel
theorem dO_nameByte_12 : decode bO_nameByte 12 = .ok (.aload_n 0, 1) := by decide +kernel
theorem dO_nameByte_13 : decode bO_nameByte 13 = .ok (.getfield 15, 3) := by decide +kernel
theorem dO_nameByte_16 : decode bO_nameByte 16 = .ok (.iload_n 1, 1) := by decide +kernel
theorem dO_nameByte_17 : decode bO_nameByte 17 = .ok (.iaload, 1) := by decide +kernel
theorem dO_nameByte_18 : decode bO_nameByte 18 = .ok (.iload_n 2, 1) := by decide +kernel
theorem dO_nameByte_19 : decode bO_nameByte 19 = .ok (.iadd, 1) := by decide +kernel
theorem dO_nameByte_20 : decode bO_nameByte 20 = .ok (.invokevirtual 59, 3) := by decide +kernel
theorem dO_nameByte_23 : decode bO_nameByte 23 = .ok (.goto 4, 3) := by decide +kernel
theorem dO_nameByte_26 : decode bO_nameByte 26 = .ok (.iconst (-1), 1) := by decide +kernel
theorem dO_nameByte_27 : decode bO_nameByte 27 = .ok (.ireturn, 1) := by decide +kernel
theorem dO_init_0 : decode bO_init 0 = .ok (.aload_n 0, 1) := by decide +kernel
theorem dO_init_1 : decode bO_init 1 = .ok (.invokespecial 3, 3) := by decide +kernel
theorem dO_init_4 : decode bO_init 4 = .ok (.aload_n 0, 1) := by decide +kernel
theorem dO_init_5 : decode bO_init 5 = .ok (.bipush 60, 2) := by decide +kernel
theorem dO_init_7 : decode bO_init 7 = .ok (.newarray .int, 2) := by decide +kernel
theorem dO_init_9 : decode bO_init 9 = .ok (.putfield 11, 3) := by decide +kernel
theorem dO_init_12 : decode bO_init 12 = .ok (.aload_n 0, 1) := by decide +kernel
theorem dO_init_13 : decode bO_init 13 = .ok (.bipush 60, 2) := by decide +kernel
theorem dO_init_15 : decode bO_init 15 = .ok (.newarray .int, 2) := by decide +kernel
theorem dO_init_17 : decode bO_init 17 = .ok (.putfield 15, 3) := by decide +kernel
theorem dO_init_20 : decode bO_init 20 = .ok (.aload_n 0, 1) := by decide +kernel
theorem dO_init_21 : decode bO_init 21 = .ok (.bipush 60, 2) := by decide +kernel
theorem dO_init_23 : decode bO_init 23 = .ok (.newarray .int, 2) := by decide +kernel
theorem dO_init_25 : decode bO_init 25 = .ok (.putfield 18, 3) := by decide +kernel
theorem dO_init_28 : decode bO_init 28 = .ok (.aload_n 0, 1) := by decide +kernel
theorem dO_init_29 : decode bO_init 29 = .ok (.bipush 60, 2) := by decide +kernel
theorem dO_init_31 : decode bO_init 31 = .ok (.newarray .int, 2) := by decide +kernel
theorem dO_init_33 : decode bO_init 33 = .ok (.putfield 21, 3) := by decide +kernel
theorem dO_init_36 : decode bO_init 36 = .ok (.aload_n 0, 1) := by decide +kernel
theorem dO_init_37 : decode bO_init 37 = .ok (.bipush 60, 2) := by decide +kernel
theorem dO_init_39 : decode bO_init 39 = .ok (.newarray .int, 2) := by decide +kernel
theorem dO_init_41 : decode bO_init 41 = .ok (.putfield 24, 3) := by decide +kernel
theorem dO_init_44 : decode bO_init 44 = .ok (.aload_n 0, 1) := by decide +kernel
theorem dO_init_45 : decode bO_init 45 = .ok (.iconst 0, 1) := by decide +kernel
theorem dO_init_46 : decode bO_init 46 = .ok (.putfield 27, 3) := by decide +kernel
theorem dO_init_49 : decode bO_init 49 = .ok (.aload_n 0, 1) := by decide +kernel
theorem dO_init_50 : decode bO_init 50 = .ok (.iconst 0, 1) := by decide +kernel
theorem dO_init_51 : decode bO_init 51 = .ok (.putfield 31, 3) := by decide +kernel
theorem dO_init_54 : decode bO_init 54 = .ok (.aload_n 0, 1) := by decide +kernel
theorem dO_init_55 : decode bO_init 55 = .ok (.iconst 0, 1) := by decide +kernel
theorem dO_init_56 : decode bO_init 56 = .ok (.putfield 34, 3) := by decide +kernel
theorem dO_init_59 : decode bO_init 59 = .ok (.aload_n 0, 1) := by decide +kernel
theorem dO_init_60 : decode bO_init 60 = .ok (.aload_n 1, 1) := by decide +kernel
theorem dO_init_61 : decode bO_init 61 = .ok (.putfield 37, 3) := by decide +kernel
theorem dO_init_64 : decode bO_init 64 = .ok (.return_, 1) := by decide +kernel
theorem dO_read_0 : decode bO_read 0 = .ok (.aload_n 0, 1) := by decide +kernel
theorem dO_read_1 : decode bO_read 1 = .ok (.iconst 0, 1) := by decide +kernel
theorem dO_read_2 : decode bO_read 2 = .ok (.putfield 27, 3) := by decide +kernel
theorem dO_read_5 : decode bO_read 5 = .ok (.aload_n 0, 1) := by decide +kernel
theorem dO_read_6 : decode bO_read 6 = .ok (.iconst 0, 1) := by decide +kernel
theorem dO_read_7 : decode bO_read 7 = .ok (.putfield 31, 3) := by decide +kernel
theorem dO_read_10 : decode bO_read 10 = .ok (.aload_n 0, 1) := by decide +kernel
theorem dO_read_11 : decode bO_read 11 = .ok (.iconst 0, 1) := by decide +kernel
theorem dO_read_12 : decode bO_read 12 = .ok (.putfield 34, 3) := by decide +kernel
theorem dO_read_15 : decode bO_read 15 = .ok (.aload_n 0, 1) := by decide +kernel
theorem dO_read_16 : decode bO_read 16 = .ok (.iconst 0, 1) := by decide +kernel
theorem dO_read_17 : decode bO_read 17 = .ok (.iconst 1, 1) := by decide +kernel
theorem dO_read_18 : decode bO_read 18 = .ok (.invokevirtual 41, 3) := by decide +kernel
theorem dO_read_21 : decode bO_read 21 = .ok (.aload_n 0, 1) := by decide +kernel
theorem dO_read_22 : decode bO_read 22 = .ok (.getfield 37, 3) := by decide +kernel
theorem dO_read_25 : decode bO_read 25 = .ok (.getfield 45, 3) := by decide +kernel
theorem dO_read_28 : decode bO_read 28 = .ok (.if_icmp .ne 7, 3) := by decide +kernel
theorem dO_read_31 : decode bO_read 31 = .ok (.iconst 1, 1) := by decide +kernel
theorem dO_read_32 : decode bO_read 32 = .ok (.goto 4, 3) := by decide +kernel
theorem dO_read_35 : decode bO_read 35 = .ok (.iconst 0, 1) := by decide +kernel
theorem dO_read_36 : decode bO_read 36 = .ok (.ireturn, 1) := by decide +kernel
theorem dO_readDocument_0 : decode bO_readDocument 0 = .ok (.iload_n 2, 1) := by decide +kernel
theorem dO_readDocument_1 : decode bO_readDocument 1 = .ok (.iconst 5, 1) := by decide +kernel
theorem dO_readDocument_2 : decode bO_readDocument 2 = .ok (.if_icmp .gt 24, 3) := by decide +kernel
theorem dO_readDocument_5 : decode bO_readDocument 5 = .ok (.aload_n 0, 1) := by decide +kernel
theorem dO_readDocument_6 : decode bO_readDocument 6 = .ok (.getfield 31, 3) := by decide +kernel
theorem dO_readDocument_9 : decode bO_readDocument 9 = .ok (.bipush 30, 2) := by decide +kernel
theorem dO_readDocument_11 : decode bO_readDocument 11 = .ok (.if_icmp .ge 15, 3) := by decide +kernel
theorem dO_readDocument_14 : decode bO_readDocument 14 = .ok (.aload_n 0, 1) := by decide +kernel
theorem dO_readDocument_15 : decode bO_readDocument 15 = .ok (.getfield 37, 3) := by decide +kernel
theorem dO_readDocument_18 : decode bO_readDocument 18 = .ok (.iload_n 1, 1) := by decide +kernel
theorem dO_readDocument_19 : decode bO_readDocument 19 = .ok (.iconst 4, 1) := by decide +kernel
theorem dO_readDocument_20 : decode bO_readDocument 20 = .ok (.invokevirtual 50, 3) := by decide +kernel
theorem dO_readDocument_23 : decode bO_readDocument 23 = .ok (.ifCond .ne 5, 3) := by decide +kernel
theorem dO_readDocument_26 : decode bO_readDocument 26 = .ok (.iconst (-1), 1) := by decide +kernel
theorem dO_readDocument_27 : decode bO_readDocument 27 = .ok (.ireturn, 1) := by decide +kernel
theorem dO_readDocument_28 : decode bO_readDocument 28 = .ok (.aload_n 0, 1) := by decide +kernel
theorem dO_readDocument_29 : decode bO_readDocument 29 = .ok (.getfield 31, 3) := by decide +kernel
theorem dO_readDocument_32 : decode bO_readDocument 32 = .ok (.istore_n 3, 1) := by decide +kernel
theorem dO_readDocument_33 : decode bO_readDocument 33 = .ok (.aload_n 0, 1) := by decide +kernel
theorem dO_readDocument_34 : decode bO_readDocument 34 = .ok (.dup, 1) := by decide +kernel
theorem dO_readDocument_35 : decode bO_readDocument 35 = .ok (.getfield 31, 3) := by decide +kernel
theorem dO_readDocument_38 : decode bO_readDocument 38 = .ok (.iconst 1, 1) := by decide +kernel
theorem dO_readDocument_39 : decode bO_readDocument 39 = .ok (.iadd, 1) := by decide +kernel
theorem dO_readDocument_40 : decode bO_readDocument 40 = .ok (.putfield 31, 3) := by decide +kernel
theorem dO_readDocument_43 : decode bO_readDocument 43 = .ok (.aload_n 0, 1) := by decide +kernel
theorem dO_readDocument_44 : decode bO_readDocument 44 = .ok (.aload_n 0, 1) := by decide +kernel
theorem dO_readDocument_45 : decode bO_readDocument 45 = .ok (.getfield 34, 3) := by decide +kernel
theorem dO_readDocument_48 : decode bO_readDocument 48 = .ok (.iload_n 2, 1) := by decide +kernel
theorem dO_readDocument_49 : decode bO_readDocument 49 = .ok (.invokestatic 54, 3) := by decide +kernel
theorem dO_readDocument_52 : decode bO_readDocument 52 = .ok (.putfield 34, 3) := by decide +kernel
theorem dO_readDocument_55 : decode bO_readDocument 55 = .ok (.iload_n 1, 1) := by decide +kernel
theorem dO_readDocument_56 : decode bO_readDocument 56 = .ok (.iconst 4, 1) := by decide +kernel
theorem dO_readDocument_57 : decode bO_readDocument 57 = .ok (.iadd, 1) := by decide +kernel
theorem dO_readDocument_58 : decode bO_readDocument 58 = .ok (.istore 4, 2) := by decide +kernel
theorem dO_readDocument_60 : decode bO_readDocument 60 = .ok (.iconst 0, 1) := by decide +kernel
theorem dO_readDocument_61 : decode bO_readDocument 61 = .ok (.istore 5, 2) := by decide +kernel
theorem dO_readDocument_63 : decode bO_readDocument 63 = .ok (.iload 5, 2) := by decide +kernel
theorem dO_readDocument_65 : decode bO_readDocument 65 = .ok (.bipush 120, 2) := by decide +kernel
theorem dO_readDocument_67 : decode bO_readDocument 67 = .ok (.if_icmp .ge 31, 3) := by decide +kernel
theorem dO_readDocument_70 : decode bO_readDocument 70 = .ok (.aload_n 0, 1) := by decide +kernel
theorem dO_readDocument_71 : decode bO_readDocument 71 = .ok (.getfield 37, 3) := by decide +kernel
theorem dO_readDocument_74 : decode bO_readDocument 74 = .ok (.iload 4, 2) := by decide +kernel
theorem dO_readDocument_76 : decode bO_readDocument 76 = .ok (.invokevirtual 59, 3) := by decide +kernel
theorem dO_readDocument_79 : decode bO_readDocument 79 = .ok (.ifCond .le 19, 3) := by decide +kernel
theorem dO_readDocument_82 : decode bO_readDocument 82 = .ok (.aload_n 0, 1) := by decide +kernel
theorem dO_readDocument_83 : decode bO_readDocument 83 = .ok (.iload 4, 2) := by decide +kernel
theorem dO_readDocument_85 : decode bO_readDocument 85 = .ok (.iload_n 3, 1) := by decide +kernel
theorem dO_readDocument_86 : decode bO_readDocument 86 = .ok (.iload_n 2, 1) := by decide +kernel
theorem dO_readDocument_87 : decode bO_readDocument 87 = .ok (.invokevirtual 63, 3) := by decide +kernel
theorem dO_readDocument_90 : decode bO_readDocument 90 = .ok (.istore 4, 2) := by decide +kernel
theorem dO_readDocument_92 : decode bO_readDocument 92 = .ok (.iinc 5 1, 3) := by decide +kernel
theorem dO_readDocument_95 : decode bO_readDocument 95 = .ok (.goto (-32), 3) := by decide +kernel
theorem dO_readDocument_98 : decode bO_readDocument 98 = .ok (.aload_n 0, 1) := by decide +kernel
theorem dO_readDocument_99 : decode bO_readDocument 99 = .ok (.getfield 37, 3) := by decide +kernel
theorem dO_readDocument_102 : decode bO_readDocument 102 = .ok (.iload 4, 2) := by decide +kernel
theorem dO_readDocument_104 : decode bO_readDocument 104 = .ok (.invokevirtual 59, 3) := by decide +kernel
theorem dO_readDocument_107 : decode bO_readDocument 107 = .ok (.ifCond .ne 20, 3) := by decide +kernel
theorem dO_readDocument_110 : decode bO_readDocument 110 = .ok (.aload_n 0, 1) := by decide +kernel
theorem dO_readDocument_111 : decode bO_readDocument 111 = .ok (.getfield 37, 3) := by decide +kernel
theorem dO_readDocument_114 : decode bO_readDocument 114 = .ok (.iload_n 1, 1) := by decide +kernel
theorem dO_readDocument_115 : decode bO_readDocument 115 = .ok (.invokevirtual 67, 3) := by decide +kernel
theorem dO_readDocument_118 : decode bO_readDocument 118 = .ok (.iload 4, 2) := by decide +kernel
theorem dO_readDocument_120 : decode bO_readDocument 120 = .ok (.iconst 1, 1) := by decide +kernel
theorem dO_readDocument_121 : decode bO_readDocument 121 = .ok (.iadd, 1) := by decide +kernel
theorem dO_readDocument_122 : decode bO_readDocument 122 = .ok (.iload_n 1, 1) := by decide +kernel
theorem dO_readDocument_123 : decode bO_readDocument 123 = .ok (.isub, 1) := by decide +kernel
theorem dO_readDocument_124 : decode bO_readDocument 124 = .ok (.if_icmp .eq 5, 3) := by decide +kernel
theorem dO_readDocument_127 : decode bO_readDocument 127 = .ok (.iconst (-1), 1) := by decide +kernel
theorem dO_readDocument_128 : decode bO_readDocument 128 = .ok (.ireturn, 1) := by decide +kernel
theorem dO_readDocument_129 : decode bO_readDocument 129 = .ok (.iload 4, 2) := by decide +kernel
theorem dO_readDocument_131 : decode bO_readDocument 131 = .ok (.iconst 1, 1) := by decide +kernel
theorem dO_readDocument_132 : decode bO_readDocument 132 = .ok (.iadd, 1) := by decide +kernel
theorem dO_readDocument_133 : decode bO_readDocument 133 = .ok (.ireturn, 1) := by decide +kernel
theorem dO_readElement_0 : decode bO_readElement 0 = .ok (.aload_n 0, 1) := by decide +kernel
theorem dO_readElement_1 : decode bO_readElement 1 = .ok (.iload_n 1, 1) := by decide +kernel
theorem dO_readElement_2 : decode bO_readElement 2 = .ok (.iconst 1, 1) := by decide +kernel
theorem dO_readElement_3 : decode bO_readElement 3 = .ok (.iadd, 1) := by decide +kernel
theorem dO_readElement_4 : decode bO_readElement 4 = .ok (.invokevirtual 70, 3) := by decide +kernel
theorem dO_readElement_7 : decode bO_readElement 7 = .ok (.istore 4, 2) := by decide +kernel
theorem dO_readElement_9 : decode bO_readElement 9 = .ok (.aload_n 0, 1) := by decide +kernel
theorem dO_readElement_10 : decode bO_readElement 10 = .ok (.getfield 27, 3) := by decide +kernel
theorem dO_readElement_13 : decode bO_readElement 13 = .ok (.bipush 60, 2) := by decide +kernel
theorem dO_readElement_15 : decode bO_readElement 15 = .ok (.if_icmp .ge 15, 3) := by decide +kernel
theorem dO_readElement_18 : decode bO_readElement 18 = .ok (.aload_n 0, 1) := by decide +kernel
theorem dO_readElement_19 : decode bO_readElement 19 = .ok (.getfield 37, 3) := by decide +kernel
theorem dO_readElement_22 : decode bO_readElement 22 = .ok (.iload 4, 2) := by decide +kernel
theorem dO_readElement_24 : decode bO_readElement 24 = .ok (.invokevirtual 59, 3) := by decide +kernel
theorem dO_readElement_27 : decode bO_readElement 27 = .ok (.ifCond .eq 5, 3) := by decide +kernel
theorem dO_readElement_30 : decode bO_readElement 30 = .ok (.iconst (-1), 1) := by decide +kernel
theorem dO_readElement_31 : decode bO_readElement 31 = .ok (.ireturn, 1) := by decide +kernel
theorem dO_readElement_32 : decode bO_readElement 32 = .ok (.aload_n 0, 1) := by decide +kernel
theorem dO_readElement_33 : decode bO_readElement 33 = .ok (.getfield 37, 3) := by decide +kernel
theorem dO_readElement_36 : decode bO_readElement 36 = .ok (.iload_n 1, 1) := by decide +kernel
theorem dO_readElement_37 : decode bO_readElement 37 = .ok (.invokevirtual 59, 3) := by decide +kernel
theorem dO_readElement_40 : decode bO_readElement 40 = .ok (.istore 5, 2) := by decide +kernel
theorem dO_readElement_42 : decode bO_readElement 42 = .ok (.iload 4, 2) := by decide +kernel
theorem dO_readElement_44 : decode bO_readElement 44 = .ok (.iconst 1, 1) := by decide +kernel
theorem dO_readElement_45 : decode bO_readElement 45 = .ok (.iadd, 1) := by decide +kernel
theorem dO_readElement_46 : decode bO_readElement 46 = .ok (.istore 6, 2) := by decide +kernel
theorem dO_readElement_48 : decode bO_readElement 48 = .ok (.aload_n 0, 1) := by decide +kernel
theorem dO_readElement_49 : decode bO_readElement 49 = .ok (.getfield 11, 3) := by decide +kernel
theorem dO_readElement_52 : decode bO_readElement 52 = .ok (.aload_n 0, 1) := by decide +kernel
theorem dO_readElement_53 : decode bO_readElement 53 = .ok (.getfield 27, 3) := by decide +kernel
theorem dO_readElement_56 : decode bO_readElement 56 = .ok (.iload 5, 2) := by decide +kernel
theorem dO_readElement_58 : decode bO_readElement 58 = .ok (.iastore, 1) := by decide +kernel
theorem dO_readElement_59 : decode bO_readElement 59 = .ok (.aload_n 0, 1) := by decide +kernel
theorem dO_readElement_60 : decode bO_readElement 60 = .ok (.getfield 15, 3) := by decide +kernel
theorem dO_readElement_63 : decode bO_readElement 63 = .ok (.aload_n 0, 1) := by decide +kernel
theorem dO_readElement_64 : decode bO_readElement 64 = .ok (.getfield 27, 3) := by decide +kernel
theorem dO_readElement_67 : decode bO_readElement 67 = .ok (.iload_n 1, 1) := by decide +kernel
theorem dO_readElement_68 : decode bO_readElement 68 = .ok (.iconst 1, 1) := by decide +kernel
theorem dO_readElement_69 : decode bO_readElement 69 = .ok (.iadd, 1) := by decide +kernel
theorem dO_readElement_70 : decode bO_readElement 70 = .ok (.iastore, 1) := by decide +kernel
theorem dO_readElement_71 : decode bO_readElement 71 = .ok (.aload_n 0, 1) := by decide +kernel
theorem dO_readElement_72 : decode bO_readElement 72 = .ok (.getfield 18, 3) := by decide +kernel
theorem dO_readElement_75 : decode bO_readElement 75 = .ok (.aload_n 0, 1) := by decide +kernel
theorem dO_readElement_76 : decode bO_readElement 76 = .ok (.getfield 27, 3) := by decide +kernel
theorem dO_readElement_79 : decode bO_readElement 79 = .ok (.iload 6, 2) := by decide +kernel
theorem dO_readElement_81 : decode bO_readElement 81 = .ok (.iastore, 1) := by decide +kernel
theorem dO_readElement_82 : decode bO_readElement 82 = .ok (.aload_n 0, 1) := by decide +kernel
theorem dO_readElement_83 : decode bO_readElement 83 = .ok (.getfield 21, 3) := by decide +kernel
theorem dO_readElement_86 : decode bO_readElement 86 = .ok (.aload_n 0, 1) := by decide +kernel
theorem dO_readElement_87 : decode bO_readElement 87 = .ok (.getfield 27, 3) := by decide +kernel
theorem dO_readElement_90 : decode bO_readElement 90 = .ok (.iload_n 2, 1) := by decide +kernel
theorem dO_readElement_91 : decode bO_readElement 91 = .ok (.iastore, 1) := by decide +kernel
theorem dO_readElement_92 : decode bO_readElement 92 = .ok (.aload_n 0, 1) := by decide +kernel
theorem dO_readElement_93 : decode bO_readElement 93 = .ok (.getfield 24, 3) := by decide +kernel
theorem dO_readElement_96 : decode bO_readElement 96 = .ok (.aload_n 0, 1) := by decide +kernel
theorem dO_readElement_97 : decode bO_readElement 97 = .ok (.getfield 27, 3) := by decide +kernel
theorem dO_readElement_100 : decode bO_readElement 100 = .ok (.iload 5, 2) := by decide +kernel
theorem dO_readElement_102 : decode bO_readElement 102 = .ok (.iconst 3, 1) := by decide +kernel
theorem dO_readElement_103 : decode bO_readElement 103 = .ok (.if_icmp .ne 10, 3) := by decide +kernel
theorem dO_readElement_106 : decode bO_readElement 106 = .ok (.aload_n 0, 1) := by decide +kernel
theorem dO_readElement_107 : decode bO_readElement 107 = .ok (.getfield 31, 3) := by decide +kernel
theorem dO_readElement_110 : decode bO_readElement 110 = .ok (.goto 4, 3) := by decide +kernel
theorem dO_readElement_113 : decode bO_readElement 113 = .ok (.iconst (-1), 1) := by decide +kernel
theorem dO_readElement_114 : decode bO_readElement 114 = .ok (.iastore, 1) := by decide +kernel
theorem dO_readElement_115 : decode bO_readElement 115 = .ok (.aload_n 0, 1) := by decide +kernel
theorem dO_readElement_116 : decode bO_readElement 116 = .ok (.dup, 1) := by decide +kernel
theorem dO_readElement_117 : decode bO_readElement 117 = .ok (.getfield 27, 3) := by decide +kernel
theorem dO_readElement_120 : decode bO_readElement 120 = .ok (.iconst 1, 1) := by decide +kernel
theorem dO_readElement_121 : decode bO_readElement 121 = .ok (.iadd, 1) := by decide +kernel
theorem dO_readElement_122 : decode bO_readElement 122 = .ok (.putfield 27, 3) := by decide +kernel
theorem dO_readElement_125 : decode bO_readElement 125 = .ok (.aload_n 0, 1) := by decide +kernel
theorem dO_readElement_126 : decode bO_readElement 126 = .ok (.iload 5, 2) := by decide +kernel
theorem dO_readElement_128 : decode bO_readElement 128 = .ok (.iload 6, 2) := by decide +kernel
theorem dO_readElement_130 : decode bO_readElement 130 = .ok (.iload_n 3, 1) := by decide +kernel
theorem dO_readElement_131 : decode bO_readElement 131 = .ok (.invokevirtual 73, 3) := by decide +kernel
theorem dO_readElement_134 : decode bO_readElement 134 = .ok (.ireturn, 1) := by decide +kernel
theorem dO_readContent_0 : decode bO_readContent 0 = .ok (.iload_n 1, 1) := by decide +kernel
theorem dO_readContent_1 : decode bO_readContent 1 = .ok (.tableswitch 173 2 18 #[83, 89, 173, 173, 173, 173, 98, 173, 129, 173, 173, 173, 173, 173, 131, 173, 151], 83) := by decide +kernel
theorem dO_readContent_84 : decode bO_readContent 84 = .ok (.aload_n 0, 1) := by decide +kernel
theorem dO_readContent_85 : decode bO_readContent 85 = .ok (.iload_n 2, 1) := by decide +kernel
theorem dO_readContent_86 : decode bO_readContent 86 = .ok (.invokevirtual 76, 3) := by decide +kernel
theorem dO_readContent_89 : decode bO_readContent 89 = .ok (.ireturn, 1) := by decide +kernel
theorem dO_readContent_90 : decode bO_readContent 90 = .ok (.aload_n 0, 1) := by decide +kernel
theorem dO_readContent_91 : decode bO_readContent 91 = .ok (.iload_n 2, 1) := by decide +kernel
theorem dO_readContent_92 : decode bO_readContent 92 = .ok (.iload_n 3, 1) := by decide +kernel
theorem dO_readContent_93 : decode bO_readContent 93 = .ok (.iconst 1, 1) := by decide +kernel
theorem dO_readContent_94 : decode bO_readContent 94 = .ok (.iadd, 1) := by decide +kernel
theorem dO_readContent_95 : decode bO_readContent 95 = .ok (.invokevirtual 41, 3) := by decide +kernel
theorem dO_readContent_98 : decode bO_readContent 98 = .ok (.ireturn, 1) := by decide +kernel
theorem dO_readContent_99 : decode bO_readContent 99 = .ok (.aload_n 0, 1) := by decide +kernel
theorem dO_readContent_100 : decode bO_readContent 100 = .ok (.getfield 37, 3) := by decide +kernel
theorem dO_readContent_103 : decode bO_readContent 103 = .ok (.iload_n 2, 1) := by decide +kernel
theorem dO_readContent_104 : decode bO_readContent 104 = .ok (.invokevirtual 59, 3) := by decide +kernel
theorem dO_readContent_107 : decode bO_readContent 107 = .ok (.ifCond .eq 15, 3) := by decide +kernel
theorem dO_readContent_110 : decode bO_readContent 110 = .ok (.aload_n 0, 1) := by decide +kernel
theorem dO_readContent_111 : decode bO_readContent 111 = .ok (.getfield 37, 3) := by decide +kernel
theorem dO_readContent_114 : decode bO_readContent 114 = .ok (.iload_n 2, 1) := by decide +kernel
theorem dO_readContent_115 : decode bO_readContent 115 = .ok (.invokevirtual 59, 3) := by decide +kernel
theorem dO_readContent_118 : decode bO_readContent 118 = .ok (.iconst 1, 1) := by decide +kernel
theorem dO_readContent_119 : decode bO_readContent 119 = .ok (.if_icmp .ne 9, 3) := by decide +kernel
theorem dO_readContent_122 : decode bO_readContent 122 = .ok (.iload_n 2, 1) := by decide +kernel
theorem dO_readContent_123 : decode bO_readContent 123 = .ok (.iconst 1, 1) := by decide +kernel
theorem dO_readContent_124 : decode bO_readContent 124 = .ok (.iadd, 1) := by decide +kernel
theorem dO_readContent_125 : decode bO_readContent 125 = .ok (.goto 4, 3) := by decide +kernel
theorem dO_readContent_128 : decode bO_readContent 128 = .ok (.iconst (-1), 1) := by decide +kernel
theorem dO_readContent_129 : decode bO_readContent 129 = .ok (.ireturn, 1) := by decide +kernel
theorem dO_readContent_130 : decode bO_readContent 130 = .ok (.iload_n 2, 1) := by decide +kernel
theorem dO_readContent_131 : decode bO_readContent 131 = .ok (.ireturn, 1) := by decide +kernel
theorem dO_readContent_132 : decode bO_readContent 132 = .ok (.aload_n 0, 1) := by decide +kernel
theorem dO_readContent_133 : decode bO_readContent 133 = .ok (.getfield 37, 3) := by decide +kernel
theorem dO_readContent_136 : decode bO_readContent 136 = .ok (.iload_n 2, 1) := by decide +kernel
theorem dO_readContent_137 : decode bO_readContent 137 = .ok (.iconst 4, 1) := by decide +kernel
theorem dO_readContent_138 : decode bO_readContent 138 = .ok (.invokevirtual 50, 3) := by decide +kernel
theorem dO_readContent_141 : decode bO_readContent 141 = .ok (.ifCond .eq 9, 3) := by decide +kernel
theorem dO_readContent_144 : decode bO_readContent 144 = .ok (.iload_n 2, 1) := by decide +kernel
theorem dO_readContent_145 : decode bO_readContent 145 = .ok (.iconst 4, 1) := by decide +kernel
theorem dO_readContent_146 : decode bO_readContent 146 = .ok (.iadd, 1) := by decide +kernel
theorem dO_readContent_147 : decode bO_readContent 147 = .ok (.goto 4, 3) := by decide +kernel
theorem dO_readContent_150 : decode bO_readContent 150 = .ok (.iconst (-1), 1) := by decide +kernel
theorem dO_readContent_151 : decode bO_readContent 151 = .ok (.ireturn, 1) := by decide +kernel
theorem dO_readContent_152 : decode bO_readContent 152 = .ok (.aload_n 0, 1) := by decide +kernel
theorem dO_readContent_153 : decode bO_readContent 153 = .ok (.getfield 37, 3) := by decide +kernel
theorem dO_readContent_156 : decode bO_readContent 156 = .ok (.iload_n 2, 1) := by decide +kernel
theorem dO_readContent_157 : decode bO_readContent 157 = .ok (.bipush 8, 2) := by decide +kernel
theorem dO_readContent_159 : decode bO_readContent 159 = .ok (.invokevirtual 50, 3) := by decide +kernel
theorem dO_readContent_162 : decode bO_readContent 162 = .ok (.ifCond .eq 10, 3) := by decide +kernel
theorem dO_readContent_165 : decode bO_readContent 165 = .ok (.iload_n 2, 1) := by decide +kernel
theorem dO_readContent_166 : decode bO_readContent 166 = .ok (.bipush 8, 2) := by decide +kernel
theorem dO_readContent_168 : decode bO_readContent 168 = .ok (.iadd, 1) := by decide +kernel
theorem dO_readContent_169 : decode bO_readContent 169 = .ok (.goto 4, 3) := by decide +kernel
theorem dO_readContent_172 : decode bO_readContent 172 = .ok (.iconst (-1), 1) := by decide +kernel
theorem dO_readContent_173 : decode bO_readContent 173 = .ok (.ireturn, 1) := by decide +kernel
theorem dO_readContent_174 : decode bO_readContent 174 = .ok (.iconst (-1), 1) := by decide +kernel
theorem dO_readContent_175 : decode bO_readContent 175 = .ok (.ireturn, 1) := by decide +kernel
theorem dO_readText_0 : decode bO_readText 0 = .ok (.iload_n 1, 1) := by decide +kernel
theorem dO_readText_1 : decode bO_readText 1 = .ok (.iconst 4, 1) := by decide +kernel
theorem dO_readText_2 : decode bO_readText 2 = .ok (.iadd, 1) := by decide +kernel
theorem dO_readText_3 : decode bO_readText 3 = .ok (.istore_n 2, 1) := by decide +kernel
theorem dO_readText_4 : decode bO_readText 4 = .ok (.aload_n 0, 1) := by decide +kernel
theorem dO_readText_5 : decode bO_readText 5 = .ok (.iload_n 2, 1) := by decide +kernel
theorem dO_readText_6 : decode bO_readText 6 = .ok (.invokevirtual 70, 3) := by decide +kernel
theorem dO_readText_9 : decode bO_readText 9 = .ok (.istore_n 3, 1) := by decide +kernel
theorem dO_readText_10 : decode bO_readText 10 = .ok (.aload_n 0, 1) := by decide +kernel
theorem dO_readText_11 : decode bO_readText 11 = .ok (.getfield 37, 3) := by decide +kernel
theorem dO_readText_14 : decode bO_readText 14 = .ok (.iload_n 3, 1) := by decide +kernel
theorem dO_readText_15 : decode bO_readText 15 = .ok (.invokevirtual 59, 3) := by decide +kernel
theorem dO_readText_18 : decode bO_readText 18 = .ok (.ifCond .ne 23, 3) := by decide +kernel
theorem dO_readText_21 : decode bO_readText 21 = .ok (.aload_n 0, 1) := by decide +kernel
theorem dO_readText_22 : decode bO_readText 22 = .ok (.getfield 37, 3) := by decide +kernel
theorem dO_readText_25 : decode bO_readText 25 = .ok (.iload_n 1, 1) := by decide +kernel
theorem dO_readText_26 : decode bO_readText 26 = .ok (.invokevirtual 67, 3) := by decide +kernel
theorem dO_readText_29 : decode bO_readText 29 = .ok (.iload_n 3, 1) := by decide +kernel
theorem dO_readText_30 : decode bO_readText 30 = .ok (.iconst 1, 1) := by decide +kernel
theorem dO_readText_31 : decode bO_readText 31 = .ok (.iadd, 1) := by decide +kernel
theorem dO_readText_32 : decode bO_readText 32 = .ok (.iload_n 2, 1) := by decide +kernel
theorem dO_readText_33 : decode bO_readText 33 = .ok (.isub, 1) := by decide +kernel
theorem dO_readText_34 : decode bO_readText 34 = .ok (.if_icmp .ne 7, 3) := by decide +kernel
theorem dO_readText_37 : decode bO_readText 37 = .ok (.iconst 1, 1) := by decide +kernel
theorem dO_readText_38 : decode bO_readText 38 = .ok (.goto 4, 3) := by decide +kernel
theorem dO_readText_41 : decode bO_readText 41 = .ok (.iconst 0, 1) := by decide +kernel
theorem dO_readText_42 : decode bO_readText 42 = .ok (.istore 4, 2) := by decide +kernel
theorem dO_readText_44 : decode bO_readText 44 = .ok (.iload 4, 2) := by decide +kernel
theorem dO_readText_46 : decode bO_readText 46 = .ok (.ifCond .eq 9, 3) := by decide +kernel
theorem dO_readText_49 : decode bO_readText 49 = .ok (.iload_n 3, 1) := by decide +kernel
theorem dO_readText_50 : decode bO_readText 50 = .ok (.iconst 1, 1) := by decide +kernel
theorem dO_readText_51 : decode bO_readText 51 = .ok (.iadd, 1) := by decide +kernel
theorem dO_readText_52 : decode bO_readText 52 = .ok (.goto 4, 3) := by decide +kernel
theorem dO_readText_55 : decode bO_readText 55 = .ok (.iconst (-1), 1) := by decide +kernel
theorem dO_readText_56 : decode bO_readText 56 = .ok (.ireturn, 1) := by decide +kernel
theorem dO_endOfText_0 : decode bO_endOfText 0 = .ok (.iload_n 1, 1) := by decide +kernel
theorem dO_endOfText_1 : decode bO_endOfText 1 = .ok (.istore_n 2, 1) := by decide +kernel
theorem dO_endOfText_2 : decode bO_endOfText 2 = .ok (.iconst 0, 1) := by decide +kernel
theorem dO_endOfText_3 : decode bO_endOfText 3 = .ok (.istore_n 3, 1) := by decide +kernel
theorem dO_endOfText_4 : decode bO_endOfText 4 = .ok (.iload_n 3, 1) := by decide +kernel
theorem dO_endOfText_5 : decode bO_endOfText 5 = .ok (.bipush 120, 2) := by decide +kernel
theorem dO_endOfText_7 : decode bO_endOfText 7 = .ok (.if_icmp .ge 36, 3) := by decide +kernel
theorem dO_endOfText_10 : decode bO_endOfText 10 = .ok (.aload_n 0, 1) := by decide +kernel
theorem dO_endOfText_11 : decode bO_endOfText 11 = .ok (.getfield 37, 3) := by decide +kernel
theorem dO_endOfText_14 : decode bO_endOfText 14 = .ok (.iload_n 2, 1) := by decide +kernel
theorem dO_endOfText_15 : decode bO_endOfText 15 = .ok (.invokevirtual 59, 3) := by decide +kernel
theorem dO_endOfText_18 : decode bO_endOfText 18 = .ok (.ifCond .le 25, 3) := by decide +kernel
theorem dO_endOfText_21 : decode bO_endOfText 21 = .ok (.aload_n 0, 1) := by decide +kernel
theorem dO_endOfText_22 : decode bO_endOfText 22 = .ok (.getfield 37, 3) := by decide +kernel
theorem dO_endOfText_25 : decode bO_endOfText 25 = .ok (.iload_n 2, 1) := by decide +kernel
theorem dO_endOfText_26 : decode bO_endOfText 26 = .ok (.invokevirtual 59, 3) := by decide +kernel
theorem dO_endOfText_29 : decode bO_endOfText 29 = .ok (.bipush 127, 2) := by decide +kernel
theorem dO_endOfText_31 : decode bO_endOfText 31 = .ok (.if_icmp .gt 12, 3) := by decide +kernel
theorem dO_endOfText_34 : decode bO_endOfText 34 = .ok (.iinc 2 1, 3) := by decide +kernel
theorem dO_endOfText_37 : decode bO_endOfText 37 = .ok (.iinc 3 1, 3) := by decide +kernel
theorem dO_endOfText_40 : decode bO_endOfText 40 = .ok (.goto (-36), 3) := by decide +kernel
theorem dO_endOfText_43 : decode bO_endOfText 43 = .ok (.iload_n 2, 1) := by decide +kernel
theorem dO_endOfText_44 : decode bO_endOfText 44 = .ok (.ireturn, 1) := by decide +kernel
theorem dO_hasElement_0 : decode bO_hasElement 0 = .ok (.iload_n 1, 1) := by decide +kernel
theorem dO_hasElement_1 : decode bO_hasElement 1 = .ok (.ifCond .lt 15, 3) := by decide +kernel
theorem dO_hasElement_4 : decode bO_hasElement 4 = .ok (.iload_n 1, 1) := by decide +kernel
theorem dO_hasElement_5 : decode bO_hasElement 5 = .ok (.aload_n 0, 1) := by decide +kernel
theorem dO_hasElement_6 : decode bO_hasElement 6 = .ok (.getfield 27, 3) := by decide +kernel
theorem dO_hasElement_9 : decode bO_hasElement 9 = .ok (.if_icmp .ge 7, 3) := by decide +kernel
theorem dO_hasElement_12 : decode bO_hasElement 12 = .ok (.iconst 1, 1) := by decide +kernel
theorem dO_hasElement_13 : decode bO_hasElement 13 = .ok (.goto 4, 3) := by decide +kernel
theorem dO_hasElement_16 : decode bO_hasElement 16 = .ok (.iconst 0, 1) := by decide +kernel
theorem dO_hasElement_17 : decode bO_hasElement 17 = .ok (.ireturn, 1) := by decide +kernel
theorem dO_type_0 : decode bO_type 0 = .ok (.aload_n 0, 1) := by decide +kernel
theorem dO_type_1 : decode bO_type 1 = .ok (.iload_n 1, 1) := by decide +kernel
theorem dO_type_2 : decode bO_type 2 = .ok (.invokevirtual 79, 3) := by decide +kernel
theorem dO_type_5 : decode bO_type 5 = .ok (.ifCond .eq 12, 3) := by decide +kernel
theorem dO_type_8 : decode bO_type 8 = .ok (.aload_n 0, 1) := by decide +kernel
theorem dO_type_9 : decode bO_type 9 = .ok (.getfield 11, 3) := by decide +kernel
theorem dO_type_12 : decode bO_type 12 = .ok (.iload_n 1, 1) := by decide +kernel
theorem dO_type_13 : decode bO_type 13 = .ok (.iaload, 1) := by decide +kernel
theorem dO_type_14 : decode bO_type 14 = .ok (.goto 4, 3) := by decide +kernel
theorem dO_type_17 : decode bO_type 17 = .ok (.iconst (-1), 1) := by decide +kernel
theorem dO_type_18 : decode bO_type 18 = .ok (.ireturn, 1) := by decide +kernel
end
section
/-! decode rows of class PropertyDocuments: laid by wip/gen/names.py -/
theorem dP_objects_0 : decode bP_objects 0 = .ok (.aload_n 0, 1) := by decide +kernel
theorem dP_objects_1 : decode bP_objects 1 = .ok (.getfield 19, 3) := by decide +kernel
theorem dP_objects_4 : decode bP_objects 4 = .ok (.getfield 57, 3) := by decide +kernel
theorem dP_objects_7 : decode bP_objects 7 = .ok (.ireturn, 1) := by decide +kernel
theorem dP_drop_0 : decode bP_drop 0 = .ok (.aload_n 0, 1) := by decide +kernel
theorem dP_drop_1 : decode bP_drop 1 = .ok (.getfield 19, 3) := by decide +kernel
theorem dP_drop_4 : decode bP_drop 4 = .ok (.iconst 0, 1) := by decide +kernel
theorem dP_drop_5 : decode bP_drop 5 = .ok (.putfield 57, 3) := by decide +kernel
theorem dP_drop_8 : decode bP_drop 8 = .ok (.return_, 1) := by decide +kernel
theorem dP_encode_0 : decode bP_encode 0 = .ok (.aload_n 0, 1) := by decide +kernel
theorem dP_encode_1 : decode bP_encode 1 = .ok (.getfield 10, 3) := by decide +kernel
theorem dP_encode_4 : decode bP_encode 4 = .ok (.aload_n 0, 1) := by decide +kernel
theorem dP_encode_5 : decode bP_encode 5 = .ok (.getfield 19, 3) := by decide +kernel
theorem dP_encode_8 : decode bP_encode 8 = .ok (.iload_n 1, 1) := by decide +kernel
theorem dP_encode_9 : decode bP_encode 9 = .ok (.invokevirtual 91, 3) := by decide +kernel
theorem dP_encode_12 : decode bP_encode 12 = .ok (.iload_n 2, 1) := by decide +kernel
theorem dP_encode_13 : decode bP_encode 13 = .ok (.invokevirtual 97, 3) := by decide +kernel
theorem dP_encode_16 : decode bP_encode 16 = .ok (.ifCond .ne 5, 3) := by decide +kernel
theorem dP_encode_19 : decode bP_encode 19 = .ok (.iconst (-1), 1) := by decide +kernel
theorem dP_encode_20 : decode bP_encode 20 = .ok (.ireturn, 1) := by decide +kernel
theorem dP_encode_21 : decode bP_encode 21 = .ok (.aload_n 0, 1) := by decide +kernel
theorem dP_encode_22 : decode bP_encode 22 = .ok (.getfield 35, 3) := by decide +kernel
theorem dP_encode_25 : decode bP_encode 25 = .ok (.iload_n 1, 1) := by decide +kernel
theorem dP_encode_26 : decode bP_encode 26 = .ok (.iload_n 2, 1) := by decide +kernel
theorem dP_encode_27 : decode bP_encode 27 = .ok (.invokevirtual 112, 3) := by decide +kernel
theorem dP_encode_30 : decode bP_encode 30 = .ok (.ifCond .ne 6, 3) := by decide +kernel
theorem dP_encode_33 : decode bP_encode 33 = .ok (.bipush (-2), 2) := by decide +kernel
theorem dP_encode_35 : decode bP_encode 35 = .ok (.ireturn, 1) := by decide +kernel
theorem dP_encode_36 : decode bP_encode 36 = .ok (.aload_n 0, 1) := by decide +kernel
theorem dP_encode_37 : decode bP_encode 37 = .ok (.getfield 26, 3) := by decide +kernel
theorem dP_encode_40 : decode bP_encode 40 = .ok (.aload_n 0, 1) := by decide +kernel
theorem dP_encode_41 : decode bP_encode 41 = .ok (.getfield 35, 3) := by decide +kernel
theorem dP_encode_44 : decode bP_encode 44 = .ok (.getfield 115, 3) := by decide +kernel
theorem dP_encode_47 : decode bP_encode 47 = .ok (.invokevirtual 118, 3) := by decide +kernel
theorem dP_encode_50 : decode bP_encode 50 = .ok (.aload_n 0, 1) := by decide +kernel
theorem dP_encode_51 : decode bP_encode 51 = .ok (.getfield 26, 3) := by decide +kernel
theorem dP_encode_54 : decode bP_encode 54 = .ok (.getfield 121, 3) := by decide +kernel
theorem dP_encode_57 : decode bP_encode 57 = .ok (.ireturn, 1) := by decide +kernel
theorem dP_decode_0 : decode bP_decode 0 = .ok (.aload_n 0, 1) := by decide +kernel
theorem dP_decode_1 : decode bP_decode 1 = .ok (.getfield 10, 3) := by decide +kernel
theorem dP_decode_4 : decode bP_decode 4 = .ok (.iload_n 1, 1) := by decide +kernel
theorem dP_decode_5 : decode bP_decode 5 = .ok (.invokevirtual 69, 3) := by decide +kernel
theorem dP_decode_8 : decode bP_decode 8 = .ok (.ifCond .ne 5, 3) := by decide +kernel
theorem dP_decode_11 : decode bP_decode 11 = .ok (.iconst (-1), 1) := by decide +kernel
theorem dP_decode_12 : decode bP_decode 12 = .ok (.ireturn, 1) := by decide +kernel
theorem dP_decode_13 : decode bP_decode 13 = .ok (.aload_n 0, 1) := by decide +kernel
theorem dP_decode_14 : decode bP_decode 14 = .ok (.getfield 44, 3) := by decide +kernel
theorem dP_decode_17 : decode bP_decode 17 = .ok (.invokevirtual 122, 3) := by decide +kernel
theorem dP_decode_20 : decode bP_decode 20 = .ok (.ifCond .ne 6, 3) := by decide +kernel
theorem dP_decode_23 : decode bP_decode 23 = .ok (.bipush (-3), 2) := by decide +kernel
theorem dP_decode_25 : decode bP_decode 25 = .ok (.ireturn, 1) := by decide +kernel
theorem dP_decode_26 : decode bP_decode 26 = .ok (.aload_n 0, 1) := by decide +kernel
theorem dP_decode_27 : decode bP_decode 27 = .ok (.getfield 53, 3) := by decide +kernel
theorem dP_decode_30 : decode bP_decode 30 = .ok (.iload_n 1, 1) := by decide +kernel
theorem dP_decode_31 : decode bP_decode 31 = .ok (.invokevirtual 126, 3) := by decide +kernel
theorem dP_decode_34 : decode bP_decode 34 = .ok (.ifCond .ne 6, 3) := by decide +kernel
theorem dP_decode_37 : decode bP_decode 37 = .ok (.bipush (-4), 2) := by decide +kernel
theorem dP_decode_39 : decode bP_decode 39 = .ok (.ireturn, 1) := by decide +kernel
theorem dP_decode_40 : decode bP_decode 40 = .ok (.aload_n 0, 1) := by decide +kernel
theorem dP_decode_41 : decode bP_decode 41 = .ok (.getfield 19, 3) := by decide +kernel
theorem dP_decode_44 : decode bP_decode 44 = .ok (.getfield 57, 3) := by decide +kernel
theorem dP_decode_47 : decode bP_decode 47 = .ok (.aload_n 0, 1) := by decide +kernel
theorem dP_decode_48 : decode bP_decode 48 = .ok (.getfield 44, 3) := by decide +kernel
theorem dP_decode_51 : decode bP_decode 51 = .ok (.getfield 129, 3) := by decide +kernel
theorem dP_decode_54 : decode bP_decode 54 = .ok (.iadd, 1) := by decide +kernel
theorem dP_decode_55 : decode bP_decode 55 = .ok (.bipush 12, 2) := by decide +kernel
theorem dP_decode_57 : decode bP_decode 57 = .ok (.if_icmp .le 6, 3) := by decide +kernel
theorem dP_decode_60 : decode bP_decode 60 = .ok (.bipush (-5), 2) := by decide +kernel
theorem dP_decode_62 : decode bP_decode 62 = .ok (.ireturn, 1) := by decide +kernel
theorem dP_decode_63 : decode bP_decode 63 = .ok (.aload_n 0, 1) := by decide +kernel
theorem dP_decode_64 : decode bP_decode 64 = .ok (.getfield 53, 3) := by decide +kernel
theorem dP_decode_67 : decode bP_decode 67 = .ok (.aload_n 0, 1) := by decide +kernel
theorem dP_decode_68 : decode bP_decode 68 = .ok (.getfield 19, 3) := by decide +kernel
theorem dP_decode_71 : decode bP_decode 71 = .ok (.invokevirtual 132, 3) := by decide +kernel
theorem dP_decode_74 : decode bP_decode 74 = .ok (.ireturn, 1) := by decide +kernel
theorem dP_sound_0 : decode bP_sound 0 = .ok (.aload_n 0, 1) := by decide +kernel
theorem dP_sound_1 : decode bP_sound 1 = .ok (.getfield 44, 3) := by decide +kernel
theorem dP_sound_4 : decode bP_sound 4 = .ok (.invokevirtual 122, 3) := by decide +kernel
theorem dP_sound_7 : decode bP_sound 7 = .ok (.ireturn, 1) := by decide +kernel
theorem dP_depth_0 : decode bP_depth 0 = .ok (.aload_n 0, 1) := by decide +kernel
theorem dP_depth_1 : decode bP_depth 1 = .ok (.getfield 44, 3) := by decide +kernel
theorem dP_depth_4 : decode bP_depth 4 = .ok (.invokevirtual 122, 3) := by decide +kernel
theorem dP_depth_7 : decode bP_depth 7 = .ok (.ifCond .eq 13, 3) := by decide +kernel
theorem dP_depth_10 : decode bP_depth 10 = .ok (.aload_n 0, 1) := by decide +kernel
theorem dP_depth_11 : decode bP_depth 11 = .ok (.getfield 44, 3) := by decide +kernel
theorem dP_depth_14 : decode bP_depth 14 = .ok (.getfield 136, 3) := by decide +kernel
theorem dP_depth_17 : decode bP_depth 17 = .ok (.goto 4, 3) := by decide +kernel
theorem dP_depth_20 : decode bP_depth 20 = .ok (.iconst 0, 1) := by decide +kernel
theorem dP_depth_21 : decode bP_depth 21 = .ok (.ireturn, 1) := by decide +kernel
theorem dP_elements_0 : decode bP_elements 0 = .ok (.aload_n 0, 1) := by decide +kernel
theorem dP_elements_1 : decode bP_elements 1 = .ok (.getfield 44, 3) := by decide +kernel
theorem dP_elements_4 : decode bP_elements 4 = .ok (.invokevirtual 122, 3) := by decide +kernel
theorem dP_elements_7 : decode bP_elements 7 = .ok (.ifCond .eq 13, 3) := by decide +kernel
theorem dP_elements_10 : decode bP_elements 10 = .ok (.aload_n 0, 1) := by decide +kernel
theorem dP_elements_11 : decode bP_elements 11 = .ok (.getfield 44, 3) := by decide +kernel
theorem dP_elements_14 : decode bP_elements 14 = .ok (.getfield 139, 3) := by decide +kernel
theorem dP_elements_17 : decode bP_elements 17 = .ok (.goto 4, 3) := by decide +kernel
theorem dP_elements_20 : decode bP_elements 20 = .ok (.iconst 0, 1) := by decide +kernel
theorem dP_elements_21 : decode bP_elements 21 = .ok (.ireturn, 1) := by decide +kernel
theorem dP_size_0 : decode bP_size 0 = .ok (.aload_n 0, 1) := by decide +kernel
theorem dP_size_1 : decode bP_size 1 = .ok (.getfield 26, 3) := by decide +kernel
theorem dP_size_4 : decode bP_size 4 = .ok (.getfield 121, 3) := by decide +kernel
theorem dP_size_7 : decode bP_size 7 = .ok (.ireturn, 1) := by decide +kernel
theorem dP_byteAt_0 : decode bP_byteAt 0 = .ok (.aload_n 0, 1) := by decide +kernel
theorem dP_byteAt_1 : decode bP_byteAt 1 = .ok (.getfield 26, 3) := by decide +kernel
theorem dP_byteAt_4 : decode bP_byteAt 4 = .ok (.iload_n 1, 1) := by decide +kernel
theorem dP_byteAt_5 : decode bP_byteAt 5 = .ok (.invokevirtual 142, 3) := by decide +kernel
theorem dP_byteAt_8 : decode bP_byteAt 8 = .ok (.ireturn, 1) := by decide +kernel
theorem dP_poke_0 : decode bP_poke 0 = .ok (.iload_n 2, 1) := by decide +kernel
theorem dP_poke_1 : decode bP_poke 1 = .ok (.ifCond .lt 10, 3) := by decide +kernel
theorem dP_poke_4 : decode bP_poke 4 = .ok (.iload_n 2, 1) := by decide +kernel
theorem dP_poke_5 : decode bP_poke 5 = .ok (.sipush 255, 3) := by decide +kernel
theorem dP_poke_8 : decode bP_poke 8 = .ok (.if_icmp .le 5, 3) := by decide +kernel
theorem dP_poke_11 : decode bP_poke 11 = .ok (.iconst 0, 1) := by decide +kernel
theorem dP_poke_12 : decode bP_poke 12 = .ok (.ireturn, 1) := by decide +kernel
theorem dP_poke_13 : decode bP_poke 13 = .ok (.iload_n 1, 1) := by decide +kernel
theorem dP_poke_14 : decode bP_poke 14 = .ok (.aload_n 0, 1) := by decide +kernel
theorem dP_poke_15 : decode bP_poke 15 = .ok (.getfield 26, 3) := by decide +kernel
theorem dP_poke_18 : decode bP_poke 18 = .ok (.getfield 121, 3) := by decide +kernel
theorem dP_poke_21 : decode bP_poke 21 = .ok (.if_icmp .ne 14, 3) := by decide +kernel
theorem dP_poke_24 : decode bP_poke 24 = .ok (.aload_n 0, 1) := by decide +kernel
theorem dP_poke_25 : decode bP_poke 25 = .ok (.getfield 26, 3) := by decide +kernel
theorem dP_poke_28 : decode bP_poke 28 = .ok (.iload_n 2, 1) := by decide +kernel
theorem dP_poke_29 : decode bP_poke 29 = .ok (.invokevirtual 145, 3) := by decide +kernel
theorem dP_poke_32 : decode bP_poke 32 = .ok (.goto 12, 3) := by decide +kernel
theorem dP_poke_35 : decode bP_poke 35 = .ok (.aload_n 0, 1) := by decide +kernel
theorem dP_poke_36 : decode bP_poke 36 = .ok (.getfield 26, 3) := by decide +kernel
theorem dP_poke_39 : decode bP_poke 39 = .ok (.iload_n 1, 1) := by decide +kernel
theorem dP_poke_40 : decode bP_poke 40 = .ok (.iload_n 2, 1) := by decide +kernel
theorem dP_poke_41 : decode bP_poke 41 = .ok (.invokevirtual 147, 3) := by decide +kernel
theorem dP_poke_44 : decode bP_poke 44 = .ok (.ireturn, 1) := by decide +kernel
theorem dP_init_0 : decode bP_init 0 = .ok (.aload_n 0, 1) := by decide +kernel
theorem dP_init_1 : decode bP_init 1 = .ok (.invokespecial 1, 3) := by decide +kernel
theorem dP_init_4 : decode bP_init 4 = .ok (.aload_n 0, 1) := by decide +kernel
theorem dP_init_5 : decode bP_init 5 = .ok (.new 7, 3) := by decide +kernel
theorem dP_init_8 : decode bP_init 8 = .ok (.dup, 1) := by decide +kernel
theorem dP_init_9 : decode bP_init 9 = .ok (.invokespecial 9, 3) := by decide +kernel
theorem dP_init_12 : decode bP_init 12 = .ok (.putfield 10, 3) := by decide +kernel
theorem dP_init_15 : decode bP_init 15 = .ok (.aload_n 0, 1) := by decide +kernel
theorem dP_init_16 : decode bP_init 16 = .ok (.new 16, 3) := by decide +kernel
theorem dP_init_19 : decode bP_init 19 = .ok (.dup, 1) := by decide +kernel
theorem dP_init_20 : decode bP_init 20 = .ok (.invokespecial 18, 3) := by decide +kernel
theorem dP_init_23 : decode bP_init 23 = .ok (.putfield 19, 3) := by decide +kernel
theorem dP_init_26 : decode bP_init 26 = .ok (.aload_n 0, 1) := by decide +kernel
theorem dP_init_27 : decode bP_init 27 = .ok (.new 23, 3) := by decide +kernel
theorem dP_init_30 : decode bP_init 30 = .ok (.dup, 1) := by decide +kernel
theorem dP_init_31 : decode bP_init 31 = .ok (.invokespecial 25, 3) := by decide +kernel
theorem dP_init_34 : decode bP_init 34 = .ok (.putfield 26, 3) := by decide +kernel
theorem dP_init_37 : decode bP_init 37 = .ok (.aload_n 0, 1) := by decide +kernel
theorem dP_init_38 : decode bP_init 38 = .ok (.new 30, 3) := by decide +kernel
theorem dP_init_41 : decode bP_init 41 = .ok (.dup, 1) := by decide +kernel
theorem dP_init_42 : decode bP_init 42 = .ok (.aload_n 0, 1) := by decide +kernel
theorem dP_init_43 : decode bP_init 43 = .ok (.getfield 10, 3) := by decide +kernel
theorem dP_init_46 : decode bP_init 46 = .ok (.aload_n 0, 1) := by decide +kernel
theorem dP_init_47 : decode bP_init 47 = .ok (.getfield 19, 3) := by decide +kernel
theorem dP_init_50 : decode bP_init 50 = .ok (.invokespecial 32, 3) := by decide +kernel
theorem dP_init_53 : decode bP_init 53 = .ok (.putfield 35, 3) := by decide +kernel
theorem dP_init_56 : decode bP_init 56 = .ok (.aload_n 0, 1) := by decide +kernel
theorem dP_init_57 : decode bP_init 57 = .ok (.new 39, 3) := by decide +kernel
theorem dP_init_60 : decode bP_init 60 = .ok (.dup, 1) := by decide +kernel
theorem dP_init_61 : decode bP_init 61 = .ok (.aload_n 0, 1) := by decide +kernel
theorem dP_init_62 : decode bP_init 62 = .ok (.getfield 26, 3) := by decide +kernel
theorem dP_init_65 : decode bP_init 65 = .ok (.invokespecial 41, 3) := by decide +kernel
theorem dP_init_68 : decode bP_init 68 = .ok (.putfield 44, 3) := by decide +kernel
theorem dP_init_71 : decode bP_init 71 = .ok (.aload_n 0, 1) := by decide +kernel
theorem dP_init_72 : decode bP_init 72 = .ok (.new 48, 3) := by decide +kernel
theorem dP_init_75 : decode bP_init 75 = .ok (.dup, 1) := by decide +kernel
theorem dP_init_76 : decode bP_init 76 = .ok (.aload_n 0, 1) := by decide +kernel
theorem dP_init_77 : decode bP_init 77 = .ok (.getfield 10, 3) := by decide +kernel
theorem dP_init_80 : decode bP_init 80 = .ok (.aload_n 0, 1) := by decide +kernel
theorem dP_init_81 : decode bP_init 81 = .ok (.getfield 26, 3) := by decide +kernel
theorem dP_init_84 : decode bP_init 84 = .ok (.aload_n 0, 1) := by decide +kernel
theorem dP_init_85 : decode bP_init 85 = .ok (.getfield 44, 3) := by decide +kernel
theorem dP_init_88 : decode bP_init 88 = .ok (.invokespecial 50, 3) := by decide +kernel
theorem dP_init_91 : decode bP_init 91 = .ok (.putfield 53, 3) := by decide +kernel
theorem dP_init_94 : decode bP_init 94 = .ok (.return_, 1) := by decide +kernel
theorem dP_cut_0 : decode bP_cut 0 = .ok (.iload_n 1, 1) := by decide +kernel
theorem dP_cut_1 : decode bP_cut 1 = .ok (.ifCond .lt 14, 3) := by decide +kernel
theorem dP_cut_4 : decode bP_cut 4 = .ok (.iload_n 1, 1) := by decide +kernel
theorem dP_cut_5 : decode bP_cut 5 = .ok (.aload_n 0, 1) := by decide +kernel
theorem dP_cut_6 : decode bP_cut 6 = .ok (.getfield 26, 3) := by decide +kernel
theorem dP_cut_9 : decode bP_cut 9 = .ok (.getfield 121, 3) := by decide +kernel
theorem dP_cut_12 : decode bP_cut 12 = .ok (.if_icmp .le 5, 3) := by decide +kernel
theorem dP_cut_15 : decode bP_cut 15 = .ok (.iconst 0, 1) := by decide +kernel
theorem dP_cut_16 : decode bP_cut 16 = .ok (.ireturn, 1) := by decide +kernel
theorem dP_cut_17 : decode bP_cut 17 = .ok (.aload_n 0, 1) := by decide +kernel
theorem dP_cut_18 : decode bP_cut 18 = .ok (.getfield 26, 3) := by decide +kernel
theorem dP_cut_21 : decode bP_cut 21 = .ok (.iload_n 1, 1) := by decide +kernel
theorem dP_cut_22 : decode bP_cut 22 = .ok (.putfield 121, 3) := by decide +kernel
theorem dP_cut_25 : decode bP_cut 25 = .ok (.iconst 1, 1) := by decide +kernel
theorem dP_cut_26 : decode bP_cut 26 = .ok (.ireturn, 1) := by decide +kernel
theorem dP_propertyOfObject_0 : decode bP_propertyOfObject 0 = .ok (.aload_n 0, 1) := by decide +kernel
theorem dP_propertyOfObject_1 : decode bP_propertyOfObject 1 = .ok (.getfield 10, 3) := by decide +kernel
theorem dP_propertyOfObject_4 : decode bP_propertyOfObject 4 = .ok (.aload_n 0, 1) := by decide +kernel
theorem dP_propertyOfObject_5 : decode bP_propertyOfObject 5 = .ok (.getfield 19, 3) := by decide +kernel
theorem dP_propertyOfObject_8 : decode bP_propertyOfObject 8 = .ok (.iload_n 1, 1) := by decide +kernel
theorem dP_propertyOfObject_9 : decode bP_propertyOfObject 9 = .ok (.invokevirtual 91, 3) := by decide +kernel
theorem dP_propertyOfObject_12 : decode bP_propertyOfObject 12 = .ok (.iload_n 2, 1) := by decide +kernel
theorem dP_propertyOfObject_13 : decode bP_propertyOfObject 13 = .ok (.invokevirtual 150, 3) := by decide +kernel
theorem dP_propertyOfObject_16 : decode bP_propertyOfObject 16 = .ok (.ireturn, 1) := by decide +kernel
theorem dP_define_0 : decode bP_define 0 = .ok (.aload_n 0, 1) := by decide +kernel
theorem dP_define_1 : decode bP_define 1 = .ok (.getfield 19, 3) := by decide +kernel
theorem dP_define_4 : decode bP_define 4 = .ok (.getfield 57, 3) := by decide +kernel
theorem dP_define_7 : decode bP_define 7 = .ok (.ifCond .le 7, 3) := by decide +kernel
theorem dP_define_10 : decode bP_define 10 = .ok (.iconst (-1), 1) := by decide +kernel
theorem dP_define_11 : decode bP_define 11 = .ok (.goto 11, 3) := by decide +kernel
theorem dP_define_14 : decode bP_define 14 = .ok (.aload_n 0, 1) := by decide +kernel
theorem dP_define_15 : decode bP_define 15 = .ok (.getfield 10, 3) := by decide +kernel
theorem dP_define_18 : decode bP_define 18 = .ok (.iload_n 1, 1) := by decide +kernel
theorem dP_define_19 : decode bP_define 19 = .ok (.invokevirtual 61, 3) := by decide +kernel
theorem dP_define_22 : decode bP_define 22 = .ok (.ireturn, 1) := by decide +kernel
theorem dP_property_0 : decode bP_property 0 = .ok (.aload_n 0, 1) := by decide +kernel
theorem dP_property_1 : decode bP_property 1 = .ok (.getfield 19, 3) := by decide +kernel
theorem dP_property_4 : decode bP_property 4 = .ok (.getfield 57, 3) := by decide +kernel
theorem dP_property_7 : decode bP_property 7 = .ok (.ifCond .ne 22, 3) := by decide +kernel
theorem dP_property_10 : decode bP_property 10 = .ok (.aload_n 0, 1) := by decide +kernel
theorem dP_property_11 : decode bP_property 11 = .ok (.getfield 10, 3) := by decide +kernel
theorem dP_property_14 : decode bP_property 14 = .ok (.iload_n 1, 1) := by decide +kernel
theorem dP_property_15 : decode bP_property 15 = .ok (.iload_n 2, 1) := by decide +kernel
theorem dP_property_16 : decode bP_property 16 = .ok (.iload_n 3, 1) := by decide +kernel
theorem dP_property_17 : decode bP_property 17 = .ok (.iload 4, 2) := by decide +kernel
theorem dP_property_19 : decode bP_property 19 = .ok (.invokevirtual 65, 3) := by decide +kernel
theorem dP_property_22 : decode bP_property 22 = .ok (.ifCond .eq 7, 3) := by decide +kernel
theorem dP_property_25 : decode bP_property 25 = .ok (.iconst 1, 1) := by decide +kernel
theorem dP_property_26 : decode bP_property 26 = .ok (.goto 4, 3) := by decide +kernel
theorem dP_property_29 : decode bP_property 29 = .ok (.iconst 0, 1) := by decide +kernel
theorem dP_property_30 : decode bP_property 30 = .ok (.ireturn, 1) := by decide +kernel
theorem dP_make_0 : decode bP_make 0 = .ok (.aload_n 0, 1) := by decide +kernel
theorem dP_make_1 : decode bP_make 1 = .ok (.getfield 10, 3) := by decide +kernel
theorem dP_make_4 : decode bP_make 4 = .ok (.iload_n 1, 1) := by decide +kernel
theorem dP_make_5 : decode bP_make 5 = .ok (.invokevirtual 69, 3) := by decide +kernel
theorem dP_make_8 : decode bP_make 8 = .ok (.ifCond .eq 14, 3) := by decide +kernel
theorem dP_make_11 : decode bP_make 11 = .ok (.aload_n 0, 1) := by decide +kernel
theorem dP_make_12 : decode bP_make 12 = .ok (.getfield 19, 3) := by decide +kernel
theorem dP_make_15 : decode bP_make 15 = .ok (.iload_n 1, 1) := by decide +kernel
theorem dP_make_16 : decode bP_make 16 = .ok (.invokevirtual 73, 3) := by decide +kernel
theorem dP_make_19 : decode bP_make 19 = .ok (.goto 4, 3) := by decide +kernel
theorem dP_make_22 : decode bP_make 22 = .ok (.iconst (-1), 1) := by decide +kernel
theorem dP_make_23 : decode bP_make 23 = .ok (.ireturn, 1) := by decide +kernel
theorem dP_put_0 : decode bP_put 0 = .ok (.aload_n 0, 1) := by decide +kernel
theorem dP_put_1 : decode bP_put 1 = .ok (.iload_n 1, 1) := by decide +kernel
theorem dP_put_2 : decode bP_put 2 = .ok (.iload_n 2, 1) := by decide +kernel
theorem dP_put_3 : decode bP_put 3 = .ok (.invokevirtual 76, 3) := by decide +kernel
theorem dP_put_6 : decode bP_put 6 = .ok (.istore 5, 2) := by decide +kernel
theorem dP_put_8 : decode bP_put 8 = .ok (.aload_n 0, 1) := by decide +kernel
theorem dP_put_9 : decode bP_put 9 = .ok (.getfield 10, 3) := by decide +kernel
theorem dP_put_12 : decode bP_put 12 = .ok (.iload 5, 2) := by decide +kernel
theorem dP_put_14 : decode bP_put 14 = .ok (.lload_n 3, 1) := by decide +kernel
theorem dP_put_15 : decode bP_put 15 = .ok (.invokevirtual 80, 3) := by decide +kernel
theorem dP_put_18 : decode bP_put 18 = .ok (.ifCond .ne 5, 3) := by decide +kernel
theorem dP_put_21 : decode bP_put 21 = .ok (.iconst 0, 1) := by decide +kernel
theorem dP_put_22 : decode bP_put 22 = .ok (.ireturn, 1) := by decide +kernel
theorem dP_put_23 : decode bP_put 23 = .ok (.aload_n 0, 1) := by decide +kernel
theorem dP_put_24 : decode bP_put 24 = .ok (.getfield 19, 3) := by decide +kernel
theorem dP_put_27 : decode bP_put 27 = .ok (.iload_n 1, 1) := by decide +kernel
theorem dP_put_28 : decode bP_put 28 = .ok (.iload 5, 2) := by decide +kernel
theorem dP_put_30 : decode bP_put 30 = .ok (.lload_n 3, 1) := by decide +kernel
theorem dP_put_31 : decode bP_put 31 = .ok (.invokevirtual 84, 3) := by decide +kernel
theorem dP_put_34 : decode bP_put 34 = .ok (.iconst 1, 1) := by decide +kernel
theorem dP_put_35 : decode bP_put 35 = .ok (.ireturn, 1) := by decide +kernel
theorem dP_link_0 : decode bP_link 0 = .ok (.aload_n 0, 1) := by decide +kernel
theorem dP_link_1 : decode bP_link 1 = .ok (.iload_n 1, 1) := by decide +kernel
theorem dP_link_2 : decode bP_link 2 = .ok (.iload_n 2, 1) := by decide +kernel
theorem dP_link_3 : decode bP_link 3 = .ok (.invokevirtual 76, 3) := by decide +kernel
theorem dP_link_6 : decode bP_link 6 = .ok (.istore 4, 2) := by decide +kernel
theorem dP_link_8 : decode bP_link 8 = .ok (.aload_n 0, 1) := by decide +kernel
theorem dP_link_9 : decode bP_link 9 = .ok (.getfield 10, 3) := by decide +kernel
theorem dP_link_12 : decode bP_link 12 = .ok (.iload 4, 2) := by decide +kernel
theorem dP_link_14 : decode bP_link 14 = .ok (.invokevirtual 88, 3) := by decide +kernel
theorem dP_link_17 : decode bP_link 17 = .ok (.ifCond .ne 5, 3) := by decide +kernel
theorem dP_link_20 : decode bP_link 20 = .ok (.iconst 0, 1) := by decide +kernel
theorem dP_link_21 : decode bP_link 21 = .ok (.ireturn, 1) := by decide +kernel
theorem dP_link_22 : decode bP_link 22 = .ok (.iload_n 3, 1) := by decide +kernel
theorem dP_link_23 : decode bP_link 23 = .ok (.iconst (-1), 1) := by decide +kernel
theorem dP_link_24 : decode bP_link 24 = .ok (.if_icmp .eq 32, 3) := by decide +kernel
theorem dP_link_27 : decode bP_link 27 = .ok (.aload_n 0, 1) := by decide +kernel
theorem dP_link_28 : decode bP_link 28 = .ok (.getfield 10, 3) := by decide +kernel
theorem dP_link_31 : decode bP_link 31 = .ok (.aload_n 0, 1) := by decide +kernel
theorem dP_link_32 : decode bP_link 32 = .ok (.getfield 19, 3) := by decide +kernel
theorem dP_link_35 : decode bP_link 35 = .ok (.iload_n 3, 1) := by decide +kernel
theorem dP_link_36 : decode bP_link 36 = .ok (.invokevirtual 91, 3) := by decide +kernel
theorem dP_link_39 : decode bP_link 39 = .ok (.aload_n 0, 1) := by decide +kernel
theorem dP_link_40 : decode bP_link 40 = .ok (.getfield 10, 3) := by decide +kernel
theorem dP_link_43 : decode bP_link 43 = .ok (.iload 4, 2) := by decide +kernel
theorem dP_link_45 : decode bP_link 45 = .ok (.invokevirtual 94, 3) := by decide +kernel
theorem dP_link_48 : decode bP_link 48 = .ok (.invokevirtual 97, 3) := by decide +kernel
theorem dP_link_51 : decode bP_link 51 = .ok (.ifCond .ne 5, 3) := by decide +kernel
theorem dP_link_54 : decode bP_link 54 = .ok (.iconst 0, 1) := by decide +kernel
theorem dP_link_55 : decode bP_link 55 = .ok (.ireturn, 1) := by decide +kernel
theorem dP_link_56 : decode bP_link 56 = .ok (.aload_n 0, 1) := by decide +kernel
theorem dP_link_57 : decode bP_link 57 = .ok (.getfield 19, 3) := by decide +kernel
theorem dP_link_60 : decode bP_link 60 = .ok (.iload_n 1, 1) := by decide +kernel
theorem dP_link_61 : decode bP_link 61 = .ok (.iload 4, 2) := by decide +kernel
theorem dP_link_63 : decode bP_link 63 = .ok (.iload_n 3, 1) := by decide +kernel
theorem dP_link_64 : decode bP_link 64 = .ok (.invokevirtual 101, 3) := by decide +kernel
theorem dP_link_67 : decode bP_link 67 = .ok (.iconst 1, 1) := by decide +kernel
theorem dP_link_68 : decode bP_link 68 = .ok (.ireturn, 1) := by decide +kernel
theorem dP_value_0 : decode bP_value 0 = .ok (.aload_n 0, 1) := by decide +kernel
theorem dP_value_1 : decode bP_value 1 = .ok (.getfield 19, 3) := by decide +kernel
theorem dP_value_4 : decode bP_value 4 = .ok (.iload_n 1, 1) := by decide +kernel
theorem dP_value_5 : decode bP_value 5 = .ok (.aload_n 0, 1) := by decide +kernel
theorem dP_value_6 : decode bP_value 6 = .ok (.iload_n 1, 1) := by decide +kernel
theorem dP_value_7 : decode bP_value 7 = .ok (.iload_n 2, 1) := by decide +kernel
theorem dP_value_8 : decode bP_value 8 = .ok (.invokevirtual 76, 3) := by decide +kernel
theorem dP_value_11 : decode bP_value 11 = .ok (.invokevirtual 105, 3) := by decide +kernel
theorem dP_value_14 : decode bP_value 14 = .ok (.lreturn, 1) := by decide +kernel
theorem dP_linked_0 : decode bP_linked 0 = .ok (.aload_n 0, 1) := by decide +kernel
theorem dP_linked_1 : decode bP_linked 1 = .ok (.getfield 19, 3) := by decide +kernel
theorem dP_linked_4 : decode bP_linked 4 = .ok (.iload_n 1, 1) := by decide +kernel
theorem dP_linked_5 : decode bP_linked 5 = .ok (.aload_n 0, 1) := by decide +kernel
theorem dP_linked_6 : decode bP_linked 6 = .ok (.iload_n 1, 1) := by decide +kernel
theorem dP_linked_7 : decode bP_linked 7 = .ok (.iload_n 2, 1) := by decide +kernel
theorem dP_linked_8 : decode bP_linked 8 = .ok (.invokevirtual 76, 3) := by decide +kernel
theorem dP_linked_11 : decode bP_linked 11 = .ok (.invokevirtual 109, 3) := by decide +kernel
theorem dP_linked_14 : decode bP_linked 14 = .ok (.ireturn, 1) := by decide +kernel
theorem dP_classOf_0 : decode bP_classOf 0 = .ok (.aload_n 0, 1) := by decide +kernel
theorem dP_classOf_1 : decode bP_classOf 1 = .ok (.getfield 19, 3) := by decide +kernel
theorem dP_classOf_4 : decode bP_classOf 4 = .ok (.iload_n 1, 1) := by decide +kernel
theorem dP_classOf_5 : decode bP_classOf 5 = .ok (.invokevirtual 91, 3) := by decide +kernel
theorem dP_classOf_8 : decode bP_classOf 8 = .ok (.ireturn, 1) := by decide +kernel
end
section
/-! decode rows of class PropertyDocuments$Writer: laid by wip/gen/names.py -/
theorem dW_init_0 : decode bW_init 0 = .ok (.aload_n 0, 1) := by decide +kernel
theorem dW_init_1 : decode bW_init 1 = .ok (.invokespecial 3, 3) := by decide +kernel
theorem dW_init_4 : decode bW_init 4 = .ok (.aload_n 0, 1) := by decide +kernel
theorem dW_init_5 : decode bW_init 5 = .ok (.aload_n 1, 1) := by decide +kernel
theorem dW_init_6 : decode bW_init 6 = .ok (.putfield 9, 3) := by decide +kernel
theorem dW_init_9 : decode bW_init 9 = .ok (.aload_n 0, 1) := by decide +kernel
theorem dW_init_10 : decode bW_init 10 = .ok (.aload_n 2, 1) := by decide +kernel
theorem dW_init_11 : decode bW_init 11 = .ok (.putfield 15, 3) := by decide +kernel
theorem dW_init_14 : decode bW_init 14 = .ok (.aload_n 0, 1) := by decide +kernel
theorem dW_init_15 : decode bW_init 15 = .ok (.new 19, 3) := by decide +kernel
theorem dW_init_18 : decode bW_init 18 = .ok (.dup, 1) := by decide +kernel
theorem dW_init_19 : decode bW_init 19 = .ok (.invokespecial 21, 3) := by decide +kernel
theorem dW_init_22 : decode bW_init 22 = .ok (.putfield 22, 3) := by decide +kernel
theorem dW_init_25 : decode bW_init 25 = .ok (.return_, 1) := by decide +kernel
theorem dW_write_0 : decode bW_write 0 = .ok (.aload_n 0, 1) := by decide +kernel
theorem dW_write_1 : decode bW_write 1 = .ok (.getfield 22, 3) := by decide +kernel
theorem dW_write_4 : decode bW_write 4 = .ok (.iconst 0, 1) := by decide +kernel
theorem dW_write_5 : decode bW_write 5 = .ok (.putfield 26, 3) := by decide +kernel
theorem dW_write_8 : decode bW_write 8 = .ok (.aload_n 0, 1) := by decide +kernel
theorem dW_write_9 : decode bW_write 9 = .ok (.iload_n 1, 1) := by decide +kernel
theorem dW_write_10 : decode bW_write 10 = .ok (.iload_n 2, 1) := by decide +kernel
theorem dW_write_11 : decode bW_write 11 = .ok (.iconst 1, 1) := by decide +kernel
theorem dW_write_12 : decode bW_write 12 = .ok (.invokevirtual 30, 3) := by decide +kernel
theorem dW_write_15 : decode bW_write 15 = .ok (.ireturn, 1) := by decide +kernel
theorem dW_writeDocument_0 : decode bW_writeDocument 0 = .ok (.aload_n 0, 1) := by decide +kernel
theorem dW_writeDocument_1 : decode bW_writeDocument 1 = .ok (.getfield 22, 3) := by decide +kernel
theorem dW_writeDocument_4 : decode bW_writeDocument 4 = .ok (.getfield 26, 3) := by decide +kernel
theorem dW_writeDocument_7 : decode bW_writeDocument 7 = .ok (.istore 4, 2) := by decide +kernel
theorem dW_writeDocument_9 : decode bW_writeDocument 9 = .ok (.aload_n 0, 1) := by decide +kernel
theorem dW_writeDocument_10 : decode bW_writeDocument 10 = .ok (.getfield 15, 3) := by decide +kernel
theorem dW_writeDocument_13 : decode bW_writeDocument 13 = .ok (.iload_n 1, 1) := by decide +kernel
theorem dW_writeDocument_14 : decode bW_writeDocument 14 = .ok (.invokevirtual 34, 3) := by decide +kernel
theorem dW_writeDocument_17 : decode bW_writeDocument 17 = .ok (.istore 5, 2) := by decide +kernel
theorem dW_writeDocument_19 : decode bW_writeDocument 19 = .ok (.iload_n 3, 1) := by decide +kernel
theorem dW_writeDocument_20 : decode bW_writeDocument 20 = .ok (.iconst 5, 1) := by decide +kernel
theorem dW_writeDocument_21 : decode bW_writeDocument 21 = .ok (.if_icmp .gt 34, 3) := by decide +kernel
theorem dW_writeDocument_24 : decode bW_writeDocument 24 = .ok (.aload_n 0, 1) := by decide +kernel
theorem dW_writeDocument_25 : decode bW_writeDocument 25 = .ok (.getfield 22, 3) := by decide +kernel
theorem dW_writeDocument_28 : decode bW_writeDocument 28 = .ok (.lconst 0, 1) := by decide +kernel
theorem dW_writeDocument_29 : decode bW_writeDocument 29 = .ok (.iconst 4, 1) := by decide +kernel
theorem dW_writeDocument_30 : decode bW_writeDocument 30 = .ok (.invokevirtual 40, 3) := by decide +kernel
theorem dW_writeDocument_33 : decode bW_writeDocument 33 = .ok (.ifCond .eq 22, 3) := by decide +kernel
theorem dW_writeDocument_36 : decode bW_writeDocument 36 = .ok (.iload 5, 2) := by decide +kernel
theorem dW_writeDocument_38 : decode bW_writeDocument 38 = .ok (.iload_n 2, 1) := by decide +kernel
theorem dW_writeDocument_39 : decode bW_writeDocument 39 = .ok (.if_icmp .eq 12, 3) := by decide +kernel
theorem dW_writeDocument_42 : decode bW_writeDocument 42 = .ok (.aload_n 0, 1) := by decide +kernel
theorem dW_writeDocument_43 : decode bW_writeDocument 43 = .ok (.iload 5, 2) := by decide +kernel
theorem dW_writeDocument_45 : decode bW_writeDocument 45 = .ok (.invokevirtual 44, 3) := by decide +kernel
theorem dW_writeDocument_48 : decode bW_writeDocument 48 = .ok (.ifCond .eq 7, 3) := by decide +kernel
theorem dW_writeDocument_51 : decode bW_writeDocument 51 = .ok (.iconst 1, 1) := by decide +kernel
theorem dW_writeDocument_52 : decode bW_writeDocument 52 = .ok (.goto 4, 3) := by decide +kernel
theorem dW_writeDocument_55 : decode bW_writeDocument 55 = .ok (.iconst 0, 1) := by decide +kernel
theorem dW_writeDocument_56 : decode bW_writeDocument 56 = .ok (.istore 6, 2) := by decide +kernel
theorem dW_writeDocument_58 : decode bW_writeDocument 58 = .ok (.iconst 0, 1) := by decide +kernel
theorem dW_writeDocument_59 : decode bW_writeDocument 59 = .ok (.istore 7, 2) := by decide +kernel
theorem dW_writeDocument_61 : decode bW_writeDocument 61 = .ok (.iload 7, 2) := by decide +kernel
theorem dW_writeDocument_63 : decode bW_writeDocument 63 = .ok (.iload 5, 2) := by decide +kernel
theorem dW_writeDocument_65 : decode bW_writeDocument 65 = .ok (.if_icmp .gt 46, 3) := by decide +kernel
theorem dW_writeDocument_68 : decode bW_writeDocument 68 = .ok (.iload 6, 2) := by decide +kernel
theorem dW_writeDocument_70 : decode bW_writeDocument 70 = .ok (.ifCond .eq 41, 3) := by decide +kernel
theorem dW_writeDocument_73 : decode bW_writeDocument 73 = .ok (.aload_n 0, 1) := by decide +kernel
theorem dW_writeDocument_74 : decode bW_writeDocument 74 = .ok (.getfield 9, 3) := by decide +kernel
theorem dW_writeDocument_77 : decode bW_writeDocument 77 = .ok (.iload 5, 2) := by decide +kernel
theorem dW_writeDocument_79 : decode bW_writeDocument 79 = .ok (.iload 7, 2) := by decide +kernel
theorem dW_writeDocument_81 : decode bW_writeDocument 81 = .ok (.invokevirtual 48, 3) := by decide +kernel
theorem dW_writeDocument_84 : decode bW_writeDocument 84 = .ok (.ifCond .eq 14, 3) := by decide +kernel
theorem dW_writeDocument_87 : decode bW_writeDocument 87 = .ok (.aload_n 0, 1) := by decide +kernel
theorem dW_writeDocument_88 : decode bW_writeDocument 88 = .ok (.iload_n 1, 1) := by decide +kernel
theorem dW_writeDocument_89 : decode bW_writeDocument 89 = .ok (.iload 7, 2) := by decide +kernel
theorem dW_writeDocument_91 : decode bW_writeDocument 91 = .ok (.iload_n 3, 1) := by decide +kernel
theorem dW_writeDocument_92 : decode bW_writeDocument 92 = .ok (.invokevirtual 54, 3) := by decide +kernel
theorem dW_writeDocument_95 : decode bW_writeDocument 95 = .ok (.ifCond .eq 7, 3) := by decide +kernel
theorem dW_writeDocument_98 : decode bW_writeDocument 98 = .ok (.iconst 1, 1) := by decide +kernel
theorem dW_writeDocument_99 : decode bW_writeDocument 99 = .ok (.goto 4, 3) := by decide +kernel
theorem dW_writeDocument_102 : decode bW_writeDocument 102 = .ok (.iconst 0, 1) := by decide +kernel
theorem dW_writeDocument_103 : decode bW_writeDocument 103 = .ok (.istore 6, 2) := by decide +kernel
theorem dW_writeDocument_105 : decode bW_writeDocument 105 = .ok (.iinc 7 1, 3) := by decide +kernel
theorem dW_writeDocument_108 : decode bW_writeDocument 108 = .ok (.goto (-47), 3) := by decide +kernel
theorem dW_writeDocument_111 : decode bW_writeDocument 111 = .ok (.iload 6, 2) := by decide +kernel
theorem dW_writeDocument_113 : decode bW_writeDocument 113 = .ok (.ifCond .eq 14, 3) := by decide +kernel
theorem dW_writeDocument_116 : decode bW_writeDocument 116 = .ok (.aload_n 0, 1) := by decide +kernel
theorem dW_writeDocument_117 : decode bW_writeDocument 117 = .ok (.getfield 22, 3) := by decide +kernel
theorem dW_writeDocument_120 : decode bW_writeDocument 120 = .ok (.iconst 0, 1) := by decide +kernel
theorem dW_writeDocument_121 : decode bW_writeDocument 121 = .ok (.invokevirtual 57, 3) := by decide +kernel
theorem dW_writeDocument_124 : decode bW_writeDocument 124 = .ok (.ifCond .ne 5, 3) := by decide +kernel
theorem dW_writeDocument_127 : decode bW_writeDocument 127 = .ok (.iconst 0, 1) := by decide +kernel
theorem dW_writeDocument_128 : decode bW_writeDocument 128 = .ok (.ireturn, 1) := by decide +kernel
theorem dW_writeDocument_129 : decode bW_writeDocument 129 = .ok (.aload_n 0, 1) := by decide +kernel
theorem dW_writeDocument_130 : decode bW_writeDocument 130 = .ok (.getfield 22, 3) := by decide +kernel
theorem dW_writeDocument_133 : decode bW_writeDocument 133 = .ok (.iload 4, 2) := by decide +kernel
theorem dW_writeDocument_135 : decode bW_writeDocument 135 = .ok (.aload_n 0, 1) := by decide +kernel
theorem dW_writeDocument_136 : decode bW_writeDocument 136 = .ok (.getfield 22, 3) := by decide +kernel
theorem dW_writeDocument_139 : decode bW_writeDocument 139 = .ok (.getfield 26, 3) := by decide +kernel
theorem dW_writeDocument_142 : decode bW_writeDocument 142 = .ok (.iload 4, 2) := by decide +kernel
theorem dW_writeDocument_144 : decode bW_writeDocument 144 = .ok (.isub, 1) := by decide +kernel
theorem dW_writeDocument_145 : decode bW_writeDocument 145 = .ok (.i2l, 1) := by decide +kernel
theorem dW_writeDocument_146 : decode bW_writeDocument 146 = .ok (.iconst 4, 1) := by decide +kernel
theorem dW_writeDocument_147 : decode bW_writeDocument 147 = .ok (.invokevirtual 60, 3) := by decide +kernel
theorem dW_writeDocument_150 : decode bW_writeDocument 150 = .ok (.iconst 1, 1) := by decide +kernel
theorem dW_writeDocument_151 : decode bW_writeDocument 151 = .ok (.ireturn, 1) := by decide +kernel
theorem dW_writeMark_0 : decode bW_writeMark 0 = .ok (.aload_n 0, 1) := by decide +kernel
theorem dW_writeMark_1 : decode bW_writeMark 1 = .ok (.getfield 22, 3) := by decide +kernel
theorem dW_writeMark_4 : decode bW_writeMark 4 = .ok (.iconst 2, 1) := by decide +kernel
theorem dW_writeMark_5 : decode bW_writeMark 5 = .ok (.invokevirtual 57, 3) := by decide +kernel
theorem dW_writeMark_8 : decode bW_writeMark 8 = .ok (.ifCond .eq 81, 3) := by decide +kernel
theorem dW_writeMark_11 : decode bW_writeMark 11 = .ok (.aload_n 0, 1) := by decide +kernel
theorem dW_writeMark_12 : decode bW_writeMark 12 = .ok (.getfield 22, 3) := by decide +kernel
theorem dW_writeMark_15 : decode bW_writeMark 15 = .ok (.bipush 95, 2) := by decide +kernel
theorem dW_writeMark_17 : decode bW_writeMark 17 = .ok (.invokevirtual 57, 3) := by decide +kernel
theorem dW_writeMark_20 : decode bW_writeMark 20 = .ok (.ifCond .eq 69, 3) := by decide +kernel
theorem dW_writeMark_23 : decode bW_writeMark 23 = .ok (.aload_n 0, 1) := by decide +kernel
theorem dW_writeMark_24 : decode bW_writeMark 24 = .ok (.getfield 22, 3) := by decide +kernel
theorem dW_writeMark_27 : decode bW_writeMark 27 = .ok (.bipush 116, 2) := by decide +kernel
theorem dW_writeMark_29 : decode bW_writeMark 29 = .ok (.invokevirtual 57, 3) := by decide +kernel
theorem dW_writeMark_32 : decode bW_writeMark 32 = .ok (.ifCond .eq 57, 3) := by decide +kernel
theorem dW_writeMark_35 : decode bW_writeMark 35 = .ok (.aload_n 0, 1) := by decide +kernel
theorem dW_writeMark_36 : decode bW_writeMark 36 = .ok (.getfield 22, 3) := by decide +kernel
theorem dW_writeMark_39 : decode bW_writeMark 39 = .ok (.iconst 0, 1) := by decide +kernel
theorem dW_writeMark_40 : decode bW_writeMark 40 = .ok (.invokevirtual 57, 3) := by decide +kernel
theorem dW_writeMark_43 : decode bW_writeMark 43 = .ok (.ifCond .eq 46, 3) := by decide +kernel
theorem dW_writeMark_46 : decode bW_writeMark 46 = .ok (.aload_n 0, 1) := by decide +kernel
theorem dW_writeMark_47 : decode bW_writeMark 47 = .ok (.getfield 22, 3) := by decide +kernel
theorem dW_writeMark_50 : decode bW_writeMark 50 = .ok (.ldc2_w 64, 3) := by decide +kernel
theorem dW_writeMark_53 : decode bW_writeMark 53 = .ok (.iconst 4, 1) := by decide +kernel
theorem dW_writeMark_54 : decode bW_writeMark 54 = .ok (.invokevirtual 40, 3) := by decide +kernel
theorem dW_writeMark_57 : decode bW_writeMark 57 = .ok (.ifCond .eq 32, 3) := by decide +kernel
theorem dW_writeMark_60 : decode bW_writeMark 60 = .ok (.aload_n 0, 1) := by decide +kernel
theorem dW_writeMark_61 : decode bW_writeMark 61 = .ok (.getfield 22, 3) := by decide +kernel
theorem dW_writeMark_64 : decode bW_writeMark 64 = .ok (.bipush 65, 2) := by decide +kernel
theorem dW_writeMark_66 : decode bW_writeMark 66 = .ok (.iload_n 1, 1) := by decide +kernel
theorem dW_writeMark_67 : decode bW_writeMark 67 = .ok (.iadd, 1) := by decide +kernel
theorem dW_writeMark_68 : decode bW_writeMark 68 = .ok (.invokevirtual 57, 3) := by decide +kernel
theorem dW_writeMark_71 : decode bW_writeMark 71 = .ok (.ifCond .eq 18, 3) := by decide +kernel
theorem dW_writeMark_74 : decode bW_writeMark 74 = .ok (.aload_n 0, 1) := by decide +kernel
theorem dW_writeMark_75 : decode bW_writeMark 75 = .ok (.getfield 22, 3) := by decide +kernel
theorem dW_writeMark_78 : decode bW_writeMark 78 = .ok (.iconst 0, 1) := by decide +kernel
theorem dW_writeMark_79 : decode bW_writeMark 79 = .ok (.invokevirtual 57, 3) := by decide +kernel
theorem dW_writeMark_82 : decode bW_writeMark 82 = .ok (.ifCond .eq 7, 3) := by decide +kernel
theorem dW_writeMark_85 : decode bW_writeMark 85 = .ok (.iconst 1, 1) := by decide +kernel
theorem dW_writeMark_86 : decode bW_writeMark 86 = .ok (.goto 4, 3) := by decide +kernel
theorem dW_writeMark_89 : decode bW_writeMark 89 = .ok (.iconst 0, 1) := by decide +kernel
theorem dW_writeMark_90 : decode bW_writeMark 90 = .ok (.ireturn, 1) := by decide +kernel
theorem dW_writeOwnProperties_0 : decode bW_writeOwnProperties 0 = .ok (.iconst 1, 1) := by decide +kernel
theorem dW_writeOwnProperties_1 : decode bW_writeOwnProperties 1 = .ok (.istore 4, 2) := by decide +kernel
theorem dW_writeOwnProperties_3 : decode bW_writeOwnProperties 3 = .ok (.iconst 0, 1) := by decide +kernel
theorem dW_writeOwnProperties_4 : decode bW_writeOwnProperties 4 = .ok (.istore 5, 2) := by decide +kernel
theorem dW_writeOwnProperties_6 : decode bW_writeOwnProperties 6 = .ok (.iload 5, 2) := by decide +kernel
theorem dW_writeOwnProperties_8 : decode bW_writeOwnProperties 8 = .ok (.bipush 8, 2) := by decide +kernel
theorem dW_writeOwnProperties_10 : decode bW_writeOwnProperties 10 = .ok (.if_icmp .ge 45, 3) := by decide +kernel
theorem dW_writeOwnProperties_13 : decode bW_writeOwnProperties 13 = .ok (.iload 4, 2) := by decide +kernel
theorem dW_writeOwnProperties_15 : decode bW_writeOwnProperties 15 = .ok (.ifCond .eq 40, 3) := by decide +kernel
theorem dW_writeOwnProperties_18 : decode bW_writeOwnProperties 18 = .ok (.aload_n 0, 1) := by decide +kernel
theorem dW_writeOwnProperties_19 : decode bW_writeOwnProperties 19 = .ok (.getfield 9, 3) := by decide +kernel
theorem dW_writeOwnProperties_22 : decode bW_writeOwnProperties 22 = .ok (.iload 5, 2) := by decide +kernel
theorem dW_writeOwnProperties_24 : decode bW_writeOwnProperties 24 = .ok (.iload_n 2, 1) := by decide +kernel
theorem dW_writeOwnProperties_25 : decode bW_writeOwnProperties 25 = .ok (.invokevirtual 66, 3) := by decide +kernel
theorem dW_writeOwnProperties_28 : decode bW_writeOwnProperties 28 = .ok (.ifCond .eq 14, 3) := by decide +kernel
theorem dW_writeOwnProperties_31 : decode bW_writeOwnProperties 31 = .ok (.aload_n 0, 1) := by decide +kernel
theorem dW_writeOwnProperties_32 : decode bW_writeOwnProperties 32 = .ok (.iload_n 1, 1) := by decide +kernel
theorem dW_writeOwnProperties_33 : decode bW_writeOwnProperties 33 = .ok (.iload 5, 2) := by decide +kernel
theorem dW_writeOwnProperties_35 : decode bW_writeOwnProperties 35 = .ok (.iload_n 3, 1) := by decide +kernel
theorem dW_writeOwnProperties_36 : decode bW_writeOwnProperties 36 = .ok (.invokevirtual 69, 3) := by decide +kernel
theorem dW_writeOwnProperties_39 : decode bW_writeOwnProperties 39 = .ok (.ifCond .eq 7, 3) := by decide +kernel
theorem dW_writeOwnProperties_42 : decode bW_writeOwnProperties 42 = .ok (.iconst 1, 1) := by decide +kernel
theorem dW_writeOwnProperties_43 : decode bW_writeOwnProperties 43 = .ok (.goto 4, 3) := by decide +kernel
theorem dW_writeOwnProperties_46 : decode bW_writeOwnProperties 46 = .ok (.iconst 0, 1) := by decide +kernel
theorem dW_writeOwnProperties_47 : decode bW_writeOwnProperties 47 = .ok (.istore 4, 2) := by decide +kernel
theorem dW_writeOwnProperties_49 : decode bW_writeOwnProperties 49 = .ok (.iinc 5 1, 3) := by decide +kernel
theorem dW_writeOwnProperties_52 : decode bW_writeOwnProperties 52 = .ok (.goto (-46), 3) := by decide +kernel
theorem dW_writeOwnProperties_55 : decode bW_writeOwnProperties 55 = .ok (.iload 4, 2) := by decide +kernel
theorem dW_writeOwnProperties_57 : decode bW_writeOwnProperties 57 = .ok (.ireturn, 1) := by decide +kernel
theorem dW_writeProperty_0 : decode bW_writeProperty 0 = .ok (.aload_n 0, 1) := by decide +kernel
theorem dW_writeProperty_1 : decode bW_writeProperty 1 = .ok (.getfield 9, 3) := by decide +kernel
theorem dW_writeProperty_4 : decode bW_writeProperty 4 = .ok (.iload_n 2, 1) := by decide +kernel
theorem dW_writeProperty_5 : decode bW_writeProperty 5 = .ok (.invokevirtual 72, 3) := by decide +kernel
theorem dW_writeProperty_8 : decode bW_writeProperty 8 = .ok (.istore 4, 2) := by decide +kernel
theorem dW_writeProperty_10 : decode bW_writeProperty 10 = .ok (.aload_n 0, 1) := by decide +kernel
theorem dW_writeProperty_11 : decode bW_writeProperty 11 = .ok (.getfield 15, 3) := by decide +kernel
theorem dW_writeProperty_14 : decode bW_writeProperty 14 = .ok (.iload_n 1, 1) := by decide +kernel
theorem dW_writeProperty_15 : decode bW_writeProperty 15 = .ok (.iload_n 2, 1) := by decide +kernel
theorem dW_writeProperty_16 : decode bW_writeProperty 16 = .ok (.invokevirtual 75, 3) := by decide +kernel
theorem dW_writeProperty_19 : decode bW_writeProperty 19 = .ok (.lstore 5, 2) := by decide +kernel
theorem dW_writeProperty_21 : decode bW_writeProperty 21 = .ok (.aload_n 0, 1) := by decide +kernel
theorem dW_writeProperty_22 : decode bW_writeProperty 22 = .ok (.getfield 9, 3) := by decide +kernel
theorem dW_writeProperty_25 : decode bW_writeProperty 25 = .ok (.iload_n 2, 1) := by decide +kernel
theorem dW_writeProperty_26 : decode bW_writeProperty 26 = .ok (.invokevirtual 79, 3) := by decide +kernel
theorem dW_writeProperty_29 : decode bW_writeProperty 29 = .ok (.tableswitch 118 0 2 #[27, 57, 88], 27) := by decide +kernel
theorem dW_writeProperty_56 : decode bW_writeProperty 56 = .ok (.aload_n 0, 1) := by decide +kernel
theorem dW_writeProperty_57 : decode bW_writeProperty 57 = .ok (.bipush 16, 2) := by decide +kernel
theorem dW_writeProperty_59 : decode bW_writeProperty 59 = .ok (.iload 4, 2) := by decide +kernel
theorem dW_writeProperty_61 : decode bW_writeProperty 61 = .ok (.invokevirtual 82, 3) := by decide +kernel
theorem dW_writeProperty_64 : decode bW_writeProperty 64 = .ok (.ifCond .eq 20, 3) := by decide +kernel
theorem dW_writeProperty_67 : decode bW_writeProperty 67 = .ok (.aload_n 0, 1) := by decide +kernel
theorem dW_writeProperty_68 : decode bW_writeProperty 68 = .ok (.getfield 22, 3) := by decide +kernel
theorem dW_writeProperty_71 : decode bW_writeProperty 71 = .ok (.lload 5, 2) := by decide +kernel
theorem dW_writeProperty_73 : decode bW_writeProperty 73 = .ok (.iconst 4, 1) := by decide +kernel
theorem dW_writeProperty_74 : decode bW_writeProperty 74 = .ok (.invokevirtual 40, 3) := by decide +kernel
theorem dW_writeProperty_77 : decode bW_writeProperty 77 = .ok (.ifCond .eq 7, 3) := by decide +kernel
theorem dW_writeProperty_80 : decode bW_writeProperty 80 = .ok (.iconst 1, 1) := by decide +kernel
theorem dW_writeProperty_81 : decode bW_writeProperty 81 = .ok (.goto 4, 3) := by decide +kernel
theorem dW_writeProperty_84 : decode bW_writeProperty 84 = .ok (.iconst 0, 1) := by decide +kernel
theorem dW_writeProperty_85 : decode bW_writeProperty 85 = .ok (.ireturn, 1) := by decide +kernel
theorem dW_writeProperty_86 : decode bW_writeProperty 86 = .ok (.aload_n 0, 1) := by decide +kernel
theorem dW_writeProperty_87 : decode bW_writeProperty 87 = .ok (.bipush 18, 2) := by decide +kernel
theorem dW_writeProperty_89 : decode bW_writeProperty 89 = .ok (.iload 4, 2) := by decide +kernel
theorem dW_writeProperty_91 : decode bW_writeProperty 91 = .ok (.invokevirtual 82, 3) := by decide +kernel
theorem dW_writeProperty_94 : decode bW_writeProperty 94 = .ok (.ifCond .eq 21, 3) := by decide +kernel
theorem dW_writeProperty_97 : decode bW_writeProperty 97 = .ok (.aload_n 0, 1) := by decide +kernel
theorem dW_writeProperty_98 : decode bW_writeProperty 98 = .ok (.getfield 22, 3) := by decide +kernel
theorem dW_writeProperty_101 : decode bW_writeProperty 101 = .ok (.lload 5, 2) := by decide +kernel
theorem dW_writeProperty_103 : decode bW_writeProperty 103 = .ok (.bipush 8, 2) := by decide +kernel
theorem dW_writeProperty_105 : decode bW_writeProperty 105 = .ok (.invokevirtual 40, 3) := by decide +kernel
theorem dW_writeProperty_108 : decode bW_writeProperty 108 = .ok (.ifCond .eq 7, 3) := by decide +kernel
theorem dW_writeProperty_111 : decode bW_writeProperty 111 = .ok (.iconst 1, 1) := by decide +kernel
theorem dW_writeProperty_112 : decode bW_writeProperty 112 = .ok (.goto 4, 3) := by decide +kernel
theorem dW_writeProperty_115 : decode bW_writeProperty 115 = .ok (.iconst 0, 1) := by decide +kernel
theorem dW_writeProperty_116 : decode bW_writeProperty 116 = .ok (.ireturn, 1) := by decide +kernel
theorem dW_writeProperty_117 : decode bW_writeProperty 117 = .ok (.aload_n 0, 1) := by decide +kernel
theorem dW_writeProperty_118 : decode bW_writeProperty 118 = .ok (.bipush 8, 2) := by decide +kernel
theorem dW_writeProperty_120 : decode bW_writeProperty 120 = .ok (.iload 4, 2) := by decide +kernel
theorem dW_writeProperty_122 : decode bW_writeProperty 122 = .ok (.invokevirtual 82, 3) := by decide +kernel
theorem dW_writeProperty_125 : decode bW_writeProperty 125 = .ok (.ifCond .eq 20, 3) := by decide +kernel
theorem dW_writeProperty_128 : decode bW_writeProperty 128 = .ok (.aload_n 0, 1) := by decide +kernel
theorem dW_writeProperty_129 : decode bW_writeProperty 129 = .ok (.getfield 22, 3) := by decide +kernel
theorem dW_writeProperty_132 : decode bW_writeProperty 132 = .ok (.lload 5, 2) := by decide +kernel
theorem dW_writeProperty_134 : decode bW_writeProperty 134 = .ok (.iconst 1, 1) := by decide +kernel
theorem dW_writeProperty_135 : decode bW_writeProperty 135 = .ok (.invokevirtual 40, 3) := by decide +kernel
theorem dW_writeProperty_138 : decode bW_writeProperty 138 = .ok (.ifCond .eq 7, 3) := by decide +kernel
theorem dW_writeProperty_141 : decode bW_writeProperty 141 = .ok (.iconst 1, 1) := by decide +kernel
theorem dW_writeProperty_142 : decode bW_writeProperty 142 = .ok (.goto 4, 3) := by decide +kernel
theorem dW_writeProperty_145 : decode bW_writeProperty 145 = .ok (.iconst 0, 1) := by decide +kernel
theorem dW_writeProperty_146 : decode bW_writeProperty 146 = .ok (.ireturn, 1) := by decide +kernel
theorem dW_writeProperty_147 : decode bW_writeProperty 147 = .ok (.aload_n 0, 1) := by decide +kernel
theorem dW_writeProperty_148 : decode bW_writeProperty 148 = .ok (.getfield 15, 3) := by decide +kernel
theorem dW_writeProperty_151 : decode bW_writeProperty 151 = .ok (.iload_n 1, 1) := by decide +kernel
theorem dW_writeProperty_152 : decode bW_writeProperty 152 = .ok (.iload_n 2, 1) := by decide +kernel
theorem dW_writeProperty_153 : decode bW_writeProperty 153 = .ok (.invokevirtual 85, 3) := by decide +kernel
theorem dW_writeProperty_156 : decode bW_writeProperty 156 = .ok (.istore 7, 2) := by decide +kernel
theorem dW_writeProperty_158 : decode bW_writeProperty 158 = .ok (.aload_n 0, 1) := by decide +kernel
theorem dW_writeProperty_159 : decode bW_writeProperty 159 = .ok (.iload 4, 2) := by decide +kernel
theorem dW_writeProperty_161 : decode bW_writeProperty 161 = .ok (.iload 7, 2) := by decide +kernel
theorem dW_writeProperty_163 : decode bW_writeProperty 163 = .ok (.aload_n 0, 1) := by decide +kernel
theorem dW_writeProperty_164 : decode bW_writeProperty 164 = .ok (.getfield 9, 3) := by decide +kernel
theorem dW_writeProperty_167 : decode bW_writeProperty 167 = .ok (.iload_n 2, 1) := by decide +kernel
theorem dW_writeProperty_168 : decode bW_writeProperty 168 = .ok (.invokevirtual 89, 3) := by decide +kernel
theorem dW_writeProperty_171 : decode bW_writeProperty 171 = .ok (.iload_n 3, 1) := by decide +kernel
theorem dW_writeProperty_172 : decode bW_writeProperty 172 = .ok (.invokevirtual 92, 3) := by decide +kernel
theorem dW_writeProperty_175 : decode bW_writeProperty 175 = .ok (.ireturn, 1) := by decide +kernel
theorem dW_writeLink_0 : decode bW_writeLink 0 = .ok (.iload_n 2, 1) := by decide +kernel
theorem dW_writeLink_1 : decode bW_writeLink 1 = .ok (.iconst (-1), 1) := by decide +kernel
theorem dW_writeLink_2 : decode bW_writeLink 2 = .ok (.if_icmp .ne 11, 3) := by decide +kernel
theorem dW_writeLink_5 : decode bW_writeLink 5 = .ok (.aload_n 0, 1) := by decide +kernel
theorem dW_writeLink_6 : decode bW_writeLink 6 = .ok (.bipush 10, 2) := by decide +kernel
theorem dW_writeLink_8 : decode bW_writeLink 8 = .ok (.iload_n 1, 1) := by decide +kernel
theorem dW_writeLink_9 : decode bW_writeLink 9 = .ok (.invokevirtual 82, 3) := by decide +kernel
theorem dW_writeLink_12 : decode bW_writeLink 12 = .ok (.ireturn, 1) := by decide +kernel
theorem dW_writeLink_13 : decode bW_writeLink 13 = .ok (.aload_n 0, 1) := by decide +kernel
theorem dW_writeLink_14 : decode bW_writeLink 14 = .ok (.iconst 3, 1) := by decide +kernel
theorem dW_writeLink_15 : decode bW_writeLink 15 = .ok (.iload_n 1, 1) := by decide +kernel
theorem dW_writeLink_16 : decode bW_writeLink 16 = .ok (.invokevirtual 82, 3) := by decide +kernel
theorem dW_writeLink_19 : decode bW_writeLink 19 = .ok (.ifCond .eq 20, 3) := by decide +kernel
theorem dW_writeLink_22 : decode bW_writeLink 22 = .ok (.aload_n 0, 1) := by decide +kernel
theorem dW_writeLink_23 : decode bW_writeLink 23 = .ok (.iload_n 2, 1) := by decide +kernel
theorem dW_writeLink_24 : decode bW_writeLink 24 = .ok (.iload_n 3, 1) := by decide +kernel
theorem dW_writeLink_25 : decode bW_writeLink 25 = .ok (.iload 4, 2) := by decide +kernel
theorem dW_writeLink_27 : decode bW_writeLink 27 = .ok (.iconst 1, 1) := by decide +kernel
theorem dW_writeLink_28 : decode bW_writeLink 28 = .ok (.iadd, 1) := by decide +kernel
theorem dW_writeLink_29 : decode bW_writeLink 29 = .ok (.invokevirtual 30, 3) := by decide +kernel
theorem dW_writeLink_32 : decode bW_writeLink 32 = .ok (.ifCond .eq 7, 3) := by decide +kernel
theorem dW_writeLink_35 : decode bW_writeLink 35 = .ok (.iconst 1, 1) := by decide +kernel
theorem dW_writeLink_36 : decode bW_writeLink 36 = .ok (.goto 4, 3) := by decide +kernel
theorem dW_writeLink_39 : decode bW_writeLink 39 = .ok (.iconst 0, 1) := by decide +kernel
theorem dW_writeLink_40 : decode bW_writeLink 40 = .ok (.ireturn, 1) := by decide +kernel
theorem dW_writeHead_0 : decode bW_writeHead 0 = .ok (.aload_n 0, 1) := by decide +kernel
theorem dW_writeHead_1 : decode bW_writeHead 1 = .ok (.getfield 22, 3) := by decide +kernel
theorem dW_writeHead_4 : decode bW_writeHead 4 = .ok (.iload_n 1, 1) := by decide +kernel
theorem dW_writeHead_5 : decode bW_writeHead 5 = .ok (.invokevirtual 57, 3) := by decide +kernel
theorem dW_writeHead_8 : decode bW_writeHead 8 = .ok (.ifCond .eq 32, 3) := by decide +kernel
theorem dW_writeHead_11 : decode bW_writeHead 11 = .ok (.aload_n 0, 1) := by decide +kernel
theorem dW_writeHead_12 : decode bW_writeHead 12 = .ok (.getfield 22, 3) := by decide +kernel
theorem dW_writeHead_15 : decode bW_writeHead 15 = .ok (.bipush 97, 2) := by decide +kernel
theorem dW_writeHead_17 : decode bW_writeHead 17 = .ok (.iload_n 2, 1) := by decide +kernel
theorem dW_writeHead_18 : decode bW_writeHead 18 = .ok (.iadd, 1) := by decide +kernel
theorem dW_writeHead_19 : decode bW_writeHead 19 = .ok (.invokevirtual 57, 3) := by decide +kernel
theorem dW_writeHead_22 : decode bW_writeHead 22 = .ok (.ifCond .eq 18, 3) := by decide +kernel
theorem dW_writeHead_25 : decode bW_writeHead 25 = .ok (.aload_n 0, 1) := by decide +kernel
theorem dW_writeHead_26 : decode bW_writeHead 26 = .ok (.getfield 22, 3) := by decide +kernel
theorem dW_writeHead_29 : decode bW_writeHead 29 = .ok (.iconst 0, 1) := by decide +kernel
theorem dW_writeHead_30 : decode bW_writeHead 30 = .ok (.invokevirtual 57, 3) := by decide +kernel
theorem dW_writeHead_33 : decode bW_writeHead 33 = .ok (.ifCond .eq 7, 3) := by decide +kernel
theorem dW_writeHead_36 : decode bW_writeHead 36 = .ok (.iconst 1, 1) := by decide +kernel
theorem dW_writeHead_37 : decode bW_writeHead 37 = .ok (.goto 4, 3) := by decide +kernel
theorem dW_writeHead_40 : decode bW_writeHead 40 = .ok (.iconst 0, 1) := by decide +kernel
theorem dW_writeHead_41 : decode bW_writeHead 41 = .ok (.ireturn, 1) := by decide +kernel
end
section
/-! the words of the tables, those that stay good over a call: laid by wip/gen/names.py -/
def bw : List Cond := lw_tbl.filter goodWord
theorem bw_in {w : Cond} (i : Nat) (h : lw_tbl[i]? = some w) (g : goodWord w = true) : w ∈ bw := List.mem_filter.mpr ⟨List.mem_of_getElem? h, g⟩
theorem w_0 : Cond.selects "PropertyDocuments$Description" yD_isTaken yD_isTaken ∈ bw := bw_in 0 (by decide +kernel) (by decide +kernel)
theorem w_1 : Cond.selects "PropertyDocuments$Instances" yI_hasCell yI_hasCell ∈ bw := bw_in 1 (by decide +kernel) (by decide +kernel)
theorem w_2 : Cond.selects "PropertyDocuments$Instances" yI_cell yI_cell ∈ bw := bw_in 2 (by decide +kernel) (by decide +kernel)
theorem w_3 : Cond.selects "PropertyDocuments" yP_propertyOfObject yP_propertyOfObject ∈ bw := bw_in 3 (by decide +kernel) (by decide +kernel)
theorem w_4 : Cond.selects "PropertyDocuments$Writer" yW_writeDocument yW_writeDocument ∈ bw := bw_in 4 (by decide +kernel) (by decide +kernel)
theorem w_5 : Cond.selects "PropertyDocuments$Bytes" yB_lowByte yB_lowByte ∈ bw := bw_in 5 (by decide +kernel) (by decide +kernel)
theorem w_6 : Cond.selects "PropertyDocuments$Writer" yW_writeMark yW_writeMark ∈ bw := bw_in 6 (by decide +kernel) (by decide +kernel)
theorem w_7 : Cond.selects "PropertyDocuments$Writer" yW_writeOwnProperties yW_writeOwnProperties ∈ bw := bw_in 7 (by decide +kernel) (by decide +kernel)
theorem w_8 : Cond.selects "PropertyDocuments$Writer" yW_writeProperty yW_writeProperty ∈ bw := bw_in 8 (by decide +kernel) (by decide +kernel)
theorem w_9 : Cond.selects "PropertyDocuments$Writer" yW_writeHead yW_writeHead ∈ bw := bw_in 9 (by decide +kernel) (by decide +kernel)
theorem w_10 : Cond.selects "PropertyDocuments$Writer" yW_writeLink yW_writeLink ∈ bw := bw_in 10 (by decide +kernel) (by decide +kernel)
theorem w_11 : Cond.selects "PropertyDocuments$Outline" yO_readDocument yO_readDocument ∈ bw := bw_in 11 (by decide +kernel) (by decide +kernel)
theorem w_12 : Cond.selects "PropertyDocuments$Outline" yO_readElement yO_readElement ∈ bw := bw_in 12 (by decide +kernel) (by decide +kernel)
theorem w_13 : Cond.selects "PropertyDocuments$Outline" yO_endOfText yO_endOfText ∈ bw := bw_in 13 (by decide +kernel) (by decide +kernel)
theorem w_14 : Cond.selects "PropertyDocuments$Outline" yO_readContent yO_readContent ∈ bw := bw_in 14 (by decide +kernel) (by decide +kernel)
theorem w_15 : Cond.selects "PropertyDocuments$Outline" yO_readText yO_readText ∈ bw := bw_in 15 (by decide +kernel) (by decide +kernel)
theorem w_16 : Cond.selects "PropertyDocuments$Fitting" yF_findMeant yF_findMeant ∈ bw := bw_in 16 (by decide +kernel) (by decide +kernel)
theorem w_17 : Cond.selects "PropertyDocuments$Outline" yO_hasElement yO_hasElement ∈ bw := bw_in 17 (by decide +kernel) (by decide +kernel)
theorem w_18 : Cond.selects "PropertyDocuments$Outline" yO_nameByte yO_nameByte ∈ bw := bw_in 18 (by decide +kernel) (by decide +kernel)
theorem w_19 : Cond.selects "PropertyDocuments$Fitting" yF_markedClass yF_markedClass ∈ bw := bw_in 19 (by decide +kernel) (by decide +kernel)
theorem w_20 : Cond.selects "PropertyDocuments$Fitting" yF_elementsFit yF_elementsFit ∈ bw := bw_in 20 (by decide +kernel) (by decide +kernel)
theorem w_21 : Cond.selects "PropertyDocuments$Fitting" yF_propertyFor yF_propertyFor ∈ bw := bw_in 21 (by decide +kernel) (by decide +kernel)
theorem w_22 : Cond.selects "PropertyDocuments$Fitting" yF_wantInside yF_wantInside ∈ bw := bw_in 22 (by decide +kernel) (by decide +kernel)
theorem w_23 : Cond.selects "PropertyDocuments$Fitting" yF_fillProperty yF_fillProperty ∈ bw := bw_in 23 (by decide +kernel) (by decide +kernel)
theorem w_24 : Cond.selects "PropertyDocuments$Fitting" yF_numberIn yF_numberIn ∈ bw := bw_in 24 (by decide +kernel) (by decide +kernel)
theorem w_25 : Cond.selects "PropertyDocumentsModel" yM_isClass yM_isClass ∈ bw := bw_in 25 (by decide +kernel) (by decide +kernel)
theorem w_26 : Cond.selects "PropertyDocumentsModel" yM_isKind yM_isKind ∈ bw := bw_in 26 (by decide +kernel) (by decide +kernel)
theorem w_27 : Cond.selects "PropertyDocumentsModel" yM_find yM_find ∈ bw := bw_in 27 (by decide +kernel) (by decide +kernel)
theorem w_28 : Cond.selects "PropertyDocumentsModel" yM_isOf yM_isOf ∈ bw := bw_in 28 (by decide +kernel) (by decide +kernel)
theorem w_29 : Cond.selects "PropertyDocumentsModel" yM_clear yM_clear ∈ bw := bw_in 29 (by decide +kernel) (by decide +kernel)
theorem w_30 : Cond.selects "PropertyDocumentsModel" yM_slot yM_slot ∈ bw := bw_in 30 (by decide +kernel) (by decide +kernel)
theorem w_31 : Cond.selects "PropertyDocumentsModel" yM_isObject yM_isObject ∈ bw := bw_in 31 (by decide +kernel) (by decide +kernel)
theorem w_32 : Cond.selects "PropertyDocumentsModel" yM_begin yM_begin ∈ bw := bw_in 32 (by decide +kernel) (by decide +kernel)
theorem w_33 : Cond.selects "PropertyDocumentsModel" yM_writeNumber yM_writeNumber ∈ bw := bw_in 33 (by decide +kernel) (by decide +kernel)
theorem w_34 : Cond.selects "PropertyDocumentsModel" yM_write yM_write ∈ bw := bw_in 34 (by decide +kernel) (by decide +kernel)
theorem w_35 : Cond.selects "PropertyDocumentsModel" yM_nth yM_nth ∈ bw := bw_in 35 (by decide +kernel) (by decide +kernel)
theorem w_36 : Cond.selects "PropertyDocumentsModel" yM_end yM_end ∈ bw := bw_in 36 (by decide +kernel) (by decide +kernel)
theorem w_37 : Cond.selects "PropertyDocumentsModel" yM_element yM_element ∈ bw := bw_in 37 (by decide +kernel) (by decide +kernel)
theorem w_38 : Cond.selects "PropertyDocumentsModel" yM_read yM_read ∈ bw := bw_in 38 (by decide +kernel) (by decide +kernel)
theorem w_39 : Cond.selects "PropertyDocumentsModel" yM_readDocument yM_readDocument ∈ bw := bw_in 39 (by decide +kernel) (by decide +kernel)
theorem w_40 : Cond.selects "PropertyDocumentsModel" yM_skip yM_skip ∈ bw := bw_in 40 (by decide +kernel) (by decide +kernel)
theorem w_41 : Cond.selects "PropertyDocumentsModel" yM_next yM_next ∈ bw := bw_in 41 (by decide +kernel) (by decide +kernel)
theorem w_42 : Cond.selects "PropertyDocumentsModel" yM_readElement yM_readElement ∈ bw := bw_in 42 (by decide +kernel) (by decide +kernel)
theorem w_43 : Cond.selects "PropertyDocumentsModel" yM_line yM_line ∈ bw := bw_in 43 (by decide +kernel) (by decide +kernel)
theorem w_44 : Cond.selects "PropertyDocumentsModel" yM_number yM_number ∈ bw := bw_in 44 (by decide +kernel) (by decide +kernel)
theorem w_45 : Cond.selects "PropertyDocumentsModel" yM_fits yM_fits ∈ bw := bw_in 45 (by decide +kernel) (by decide +kernel)
theorem w_46 : Cond.selects "PropertyDocumentsModel" yM_mean yM_mean ∈ bw := bw_in 46 (by decide +kernel) (by decide +kernel)
theorem w_47 : Cond.selects "PropertyDocumentsModel" yM_isMark yM_isMark ∈ bw := bw_in 47 (by decide +kernel) (by decide +kernel)
theorem w_48 : Cond.selects "PropertyDocumentsModel" yM_about yM_about ∈ bw := bw_in 48 (by decide +kernel) (by decide +kernel)
theorem w_49 : Cond.selects "PropertyDocumentsModel" yM_take yM_take ∈ bw := bw_in 49 (by decide +kernel) (by decide +kernel)
theorem w_50 : Cond.selects "PropertyDocumentsModel" yM_long64 yM_long64 ∈ bw := bw_in 50 (by decide +kernel) (by decide +kernel)
theorem w_51 : Cond.initialized "PropertyDocumentsLaw" ∈ bw := bw_in 51 (by decide +kernel) (by decide +kernel)
theorem w_52 : Cond.initialized "PropertyDocuments" ∈ bw := bw_in 52 (by decide +kernel) (by decide +kernel)
theorem w_53 : Cond.initialized "PropertyDocuments$Description" ∈ bw := bw_in 53 (by decide +kernel) (by decide +kernel)
theorem w_54 : Cond.initialized "PropertyDocuments$Instances" ∈ bw := bw_in 54 (by decide +kernel) (by decide +kernel)
theorem w_55 : Cond.initialized "PropertyDocuments$Bytes" ∈ bw := bw_in 55 (by decide +kernel) (by decide +kernel)
theorem w_56 : Cond.initialized "PropertyDocuments$Writer" ∈ bw := bw_in 56 (by decide +kernel) (by decide +kernel)
theorem w_57 : Cond.initialized "PropertyDocuments$Outline" ∈ bw := bw_in 57 (by decide +kernel) (by decide +kernel)
theorem w_58 : Cond.initialized "PropertyDocuments$Fitting" ∈ bw := bw_in 58 (by decide +kernel) (by decide +kernel)
theorem w_59 : Cond.initialized "PropertyDocumentsModel" ∈ bw := bw_in 59 (by decide +kernel) (by decide +kernel)
theorem w_60 : Cond.initialized "java/lang/System" ∈ bw := bw_in 60 (by decide +kernel) (by decide +kernel)
theorem w_61 : Cond.initialized "java/lang/Math" ∈ bw := bw_in 61 (by decide +kernel) (by decide +kernel)
theorem w_62 : Cond.classLink "PropertyDocumentsLaw" 7 "PropertyDocuments" ∈ bw := bw_in 62 (by decide +kernel) (by decide +kernel)
theorem w_63 : Cond.instantiable "PropertyDocuments" 6 ∈ bw := bw_in 63 (by decide +kernel) (by decide +kernel)
theorem w_64 : Cond.methodLink "PropertyDocumentsLaw" 9 yP_init ∈ bw := bw_in 64 (by decide +kernel) (by decide +kernel)
theorem w_65 : Cond.instanceMethod yP_init ∈ bw := bw_in 65 (by decide +kernel) (by decide +kernel)
theorem w_66 : Cond.code yP_init prog_1_method_1_code 1 none ∈ bw := bw_in 66 (by decide +kernel) (by decide +kernel)
theorem w_67 : Cond.methodLink "PropertyDocuments" 1 ⟨"java/lang/Object", "<init>", "()V"⟩ ∈ bw := bw_in 67 (by decide +kernel) (by decide +kernel)
theorem w_68 : Cond.instanceMethod ⟨"java/lang/Object", "<init>", "()V"⟩ ∈ bw := bw_in 68 (by decide +kernel) (by decide +kernel)
theorem w_69 : Cond.code ⟨"java/lang/Object", "<init>", "()V"⟩ object_method_1_code 1 none ∈ bw := bw_in 69 (by decide +kernel) (by decide +kernel)
theorem w_70 : Cond.classLink "PropertyDocuments" 7 "PropertyDocuments$Description" ∈ bw := bw_in 70 (by decide +kernel) (by decide +kernel)
theorem w_71 : Cond.instantiable "PropertyDocuments$Description" 7 ∈ bw := bw_in 71 (by decide +kernel) (by decide +kernel)
theorem w_73 : Cond.instanceMethod yD_init ∈ bw := bw_in 73 (by decide +kernel) (by decide +kernel)
theorem w_74 : Cond.code yD_init prog_3_method_1_code 1 none ∈ bw := bw_in 74 (by decide +kernel) (by decide +kernel)
theorem w_75 : Cond.methodLink "PropertyDocuments$Description" 3 ⟨"java/lang/Object", "<init>", "()V"⟩ ∈ bw := bw_in 75 (by decide +kernel) (by decide +kernel)
theorem w_76 : Cond.fieldLink "PropertyDocuments$Description" 9 "PropertyDocuments$Description" "parents" "[I" ∈ bw := bw_in 76 (by decide +kernel) (by decide +kernel)
theorem w_77 : Cond.fieldLink "PropertyDocuments$Description" 15 "PropertyDocuments$Description" "owners" "[I" ∈ bw := bw_in 77 (by decide +kernel) (by decide +kernel)
theorem w_78 : Cond.fieldLink "PropertyDocuments$Description" 18 "PropertyDocuments$Description" "letters" "[I" ∈ bw := bw_in 78 (by decide +kernel) (by decide +kernel)
theorem w_79 : Cond.fieldLink "PropertyDocuments$Description" 21 "PropertyDocuments$Description" "sorts" "[I" ∈ bw := bw_in 79 (by decide +kernel) (by decide +kernel)
theorem w_80 : Cond.fieldLink "PropertyDocuments$Description" 24 "PropertyDocuments$Description" "targets" "[I" ∈ bw := bw_in 80 (by decide +kernel) (by decide +kernel)
theorem w_81 : Cond.fieldLink "PropertyDocuments$Description" 27 "PropertyDocuments$Description" "classCount" "I" ∈ bw := bw_in 81 (by decide +kernel) (by decide +kernel)
theorem w_82 : Cond.fieldLink "PropertyDocuments$Description" 31 "PropertyDocuments$Description" "propertyCount" "I" ∈ bw := bw_in 82 (by decide +kernel) (by decide +kernel)
theorem w_83 : Cond.laysFinal "PropertyDocuments$Description" "PropertyDocuments$Description" "parents" "[I" ∈ bw := bw_in 83 (by decide +kernel) (by decide +kernel)
theorem w_85 : Cond.laysFinal "PropertyDocuments$Description" "PropertyDocuments$Description" "owners" "[I" ∈ bw := bw_in 85 (by decide +kernel) (by decide +kernel)
theorem w_87 : Cond.laysFinal "PropertyDocuments$Description" "PropertyDocuments$Description" "letters" "[I" ∈ bw := bw_in 87 (by decide +kernel) (by decide +kernel)
theorem w_89 : Cond.laysFinal "PropertyDocuments$Description" "PropertyDocuments$Description" "sorts" "[I" ∈ bw := bw_in 89 (by decide +kernel) (by decide +kernel)
theorem w_91 : Cond.laysFinal "PropertyDocuments$Description" "PropertyDocuments$Description" "targets" "[I" ∈ bw := bw_in 91 (by decide +kernel) (by decide +kernel)
theorem w_93 : Cond.lays "PropertyDocuments$Description" "PropertyDocuments$Description" "classCount" "I" ∈ bw := bw_in 93 (by decide +kernel) (by decide +kernel)
theorem w_95 : Cond.lays "PropertyDocuments$Description" "PropertyDocuments$Description" "propertyCount" "I" ∈ bw := bw_in 95 (by decide +kernel) (by decide +kernel)
theorem w_98 : Cond.arrayClass .int ∈ bw := bw_in 98 (by decide +kernel) (by decide +kernel)
theorem w_99 : Cond.classLink "PropertyDocuments" 16 "PropertyDocuments$Instances" ∈ bw := bw_in 99 (by decide +kernel) (by decide +kernel)
theorem w_100 : Cond.instantiable "PropertyDocuments$Instances" 4 ∈ bw := bw_in 100 (by decide +kernel) (by decide +kernel)
theorem w_102 : Cond.instanceMethod yI_init ∈ bw := bw_in 102 (by decide +kernel) (by decide +kernel)
theorem w_103 : Cond.code yI_init prog_5_method_1_code 1 none ∈ bw := bw_in 103 (by decide +kernel) (by decide +kernel)
theorem w_104 : Cond.methodLink "PropertyDocuments$Instances" 3 ⟨"java/lang/Object", "<init>", "()V"⟩ ∈ bw := bw_in 104 (by decide +kernel) (by decide +kernel)
theorem w_105 : Cond.fieldLink "PropertyDocuments$Instances" 9 "PropertyDocuments$Instances" "kinds" "[I" ∈ bw := bw_in 105 (by decide +kernel) (by decide +kernel)
theorem w_106 : Cond.fieldLink "PropertyDocuments$Instances" 15 "PropertyDocuments$Instances" "values" "[J" ∈ bw := bw_in 106 (by decide +kernel) (by decide +kernel)
theorem w_107 : Cond.fieldLink "PropertyDocuments$Instances" 19 "PropertyDocuments$Instances" "partners" "[I" ∈ bw := bw_in 107 (by decide +kernel) (by decide +kernel)
theorem w_108 : Cond.fieldLink "PropertyDocuments$Instances" 22 "PropertyDocuments$Instances" "count" "I" ∈ bw := bw_in 108 (by decide +kernel) (by decide +kernel)
theorem w_111 : Cond.laysFinal "PropertyDocuments$Instances" "PropertyDocuments$Instances" "kinds" "[I" ∈ bw := bw_in 111 (by decide +kernel) (by decide +kernel)
theorem w_113 : Cond.laysFinal "PropertyDocuments$Instances" "PropertyDocuments$Instances" "values" "[J" ∈ bw := bw_in 113 (by decide +kernel) (by decide +kernel)
theorem w_115 : Cond.laysFinal "PropertyDocuments$Instances" "PropertyDocuments$Instances" "partners" "[I" ∈ bw := bw_in 115 (by decide +kernel) (by decide +kernel)
theorem w_117 : Cond.lays "PropertyDocuments$Instances" "PropertyDocuments$Instances" "count" "I" ∈ bw := bw_in 117 (by decide +kernel) (by decide +kernel)
theorem w_120 : Cond.arrayClass .long ∈ bw := bw_in 120 (by decide +kernel) (by decide +kernel)
theorem w_121 : Cond.classLink "PropertyDocuments" 23 "PropertyDocuments$Bytes" ∈ bw := bw_in 121 (by decide +kernel) (by decide +kernel)
theorem w_122 : Cond.instantiable "PropertyDocuments$Bytes" 2 ∈ bw := bw_in 122 (by decide +kernel) (by decide +kernel)
theorem w_124 : Cond.instanceMethod yB_init ∈ bw := bw_in 124 (by decide +kernel) (by decide +kernel)
theorem w_125 : Cond.code yB_init prog_2_method_1_code 1 none ∈ bw := bw_in 125 (by decide +kernel) (by decide +kernel)
theorem w_126 : Cond.methodLink "PropertyDocuments$Bytes" 3 ⟨"java/lang/Object", "<init>", "()V"⟩ ∈ bw := bw_in 126 (by decide +kernel) (by decide +kernel)
theorem w_127 : Cond.fieldLink "PropertyDocuments$Bytes" 9 "PropertyDocuments$Bytes" "row" "[I" ∈ bw := bw_in 127 (by decide +kernel) (by decide +kernel)
theorem w_128 : Cond.fieldLink "PropertyDocuments$Bytes" 15 "PropertyDocuments$Bytes" "count" "I" ∈ bw := bw_in 128 (by decide +kernel) (by decide +kernel)
theorem w_132 : Cond.laysFinal "PropertyDocuments$Bytes" "PropertyDocuments$Bytes" "row" "[I" ∈ bw := bw_in 132 (by decide +kernel) (by decide +kernel)
theorem w_134 : Cond.lays "PropertyDocuments$Bytes" "PropertyDocuments$Bytes" "count" "I" ∈ bw := bw_in 134 (by decide +kernel) (by decide +kernel)
theorem w_137 : Cond.classLink "PropertyDocuments" 30 "PropertyDocuments$Writer" ∈ bw := bw_in 137 (by decide +kernel) (by decide +kernel)
theorem w_138 : Cond.instantiable "PropertyDocuments$Writer" 3 ∈ bw := bw_in 138 (by decide +kernel) (by decide +kernel)
theorem w_139 : Cond.methodLink "PropertyDocuments" 32 yW_init ∈ bw := bw_in 139 (by decide +kernel) (by decide +kernel)
theorem w_140 : Cond.instanceMethod yW_init ∈ bw := bw_in 140 (by decide +kernel) (by decide +kernel)
theorem w_141 : Cond.code yW_init prog_7_method_1_code 3 none ∈ bw := bw_in 141 (by decide +kernel) (by decide +kernel)
theorem w_142 : Cond.methodLink "PropertyDocuments$Writer" 3 ⟨"java/lang/Object", "<init>", "()V"⟩ ∈ bw := bw_in 142 (by decide +kernel) (by decide +kernel)
theorem w_143 : Cond.classLink "PropertyDocuments$Writer" 19 "PropertyDocuments$Bytes" ∈ bw := bw_in 143 (by decide +kernel) (by decide +kernel)
theorem w_145 : Cond.fieldLink "PropertyDocuments$Writer" 9 "PropertyDocuments$Writer" "description" "LPropertyDocuments$Description;" ∈ bw := bw_in 145 (by decide +kernel) (by decide +kernel)
theorem w_146 : Cond.fieldLink "PropertyDocuments$Writer" 15 "PropertyDocuments$Writer" "instances" "LPropertyDocuments$Instances;" ∈ bw := bw_in 146 (by decide +kernel) (by decide +kernel)
theorem w_147 : Cond.fieldLink "PropertyDocuments$Writer" 22 "PropertyDocuments$Writer" "draft" "LPropertyDocuments$Bytes;" ∈ bw := bw_in 147 (by decide +kernel) (by decide +kernel)
theorem w_149 : Cond.laysFinal "PropertyDocuments$Writer" "PropertyDocuments$Writer" "description" "LPropertyDocuments$Description;" ∈ bw := bw_in 149 (by decide +kernel) (by decide +kernel)
theorem w_151 : Cond.laysFinal "PropertyDocuments$Writer" "PropertyDocuments$Writer" "instances" "LPropertyDocuments$Instances;" ∈ bw := bw_in 151 (by decide +kernel) (by decide +kernel)
theorem w_153 : Cond.laysFinal "PropertyDocuments$Writer" "PropertyDocuments$Writer" "draft" "LPropertyDocuments$Bytes;" ∈ bw := bw_in 153 (by decide +kernel) (by decide +kernel)
theorem w_156 : Cond.classLink "PropertyDocuments" 39 "PropertyDocuments$Outline" ∈ bw := bw_in 156 (by decide +kernel) (by decide +kernel)
theorem w_157 : Cond.instantiable "PropertyDocuments$Outline" 9 ∈ bw := bw_in 157 (by decide +kernel) (by decide +kernel)
theorem w_158 : Cond.methodLink "PropertyDocuments" 41 yO_init ∈ bw := bw_in 158 (by decide +kernel) (by decide +kernel)
theorem w_159 : Cond.instanceMethod yO_init ∈ bw := bw_in 159 (by decide +kernel) (by decide +kernel)
theorem w_160 : Cond.code yO_init prog_6_method_1_code 2 none ∈ bw := bw_in 160 (by decide +kernel) (by decide +kernel)
theorem w_161 : Cond.methodLink "PropertyDocuments$Outline" 3 ⟨"java/lang/Object", "<init>", "()V"⟩ ∈ bw := bw_in 161 (by decide +kernel) (by decide +kernel)
theorem w_162 : Cond.fieldLink "PropertyDocuments$Outline" 37 "PropertyDocuments$Outline" "bytes" "LPropertyDocuments$Bytes;" ∈ bw := bw_in 162 (by decide +kernel) (by decide +kernel)
theorem w_163 : Cond.fieldLink "PropertyDocuments$Outline" 11 "PropertyDocuments$Outline" "types" "[I" ∈ bw := bw_in 163 (by decide +kernel) (by decide +kernel)
theorem w_164 : Cond.fieldLink "PropertyDocuments$Outline" 15 "PropertyDocuments$Outline" "names" "[I" ∈ bw := bw_in 164 (by decide +kernel) (by decide +kernel)
theorem w_165 : Cond.fieldLink "PropertyDocuments$Outline" 18 "PropertyDocuments$Outline" "contents" "[I" ∈ bw := bw_in 165 (by decide +kernel) (by decide +kernel)
theorem w_166 : Cond.fieldLink "PropertyDocuments$Outline" 21 "PropertyDocuments$Outline" "holders" "[I" ∈ bw := bw_in 166 (by decide +kernel) (by decide +kernel)
theorem w_167 : Cond.fieldLink "PropertyDocuments$Outline" 24 "PropertyDocuments$Outline" "inners" "[I" ∈ bw := bw_in 167 (by decide +kernel) (by decide +kernel)
theorem w_168 : Cond.fieldLink "PropertyDocuments$Outline" 27 "PropertyDocuments$Outline" "elementCount" "I" ∈ bw := bw_in 168 (by decide +kernel) (by decide +kernel)
theorem w_171 : Cond.fieldLink "PropertyDocuments$Outline" 31 "PropertyDocuments$Outline" "documentCount" "I" ∈ bw := bw_in 171 (by decide +kernel) (by decide +kernel)
theorem w_174 : Cond.fieldLink "PropertyDocuments$Outline" 34 "PropertyDocuments$Outline" "deepest" "I" ∈ bw := bw_in 174 (by decide +kernel) (by decide +kernel)
theorem w_176 : Cond.laysFinal "PropertyDocuments$Outline" "PropertyDocuments$Outline" "bytes" "LPropertyDocuments$Bytes;" ∈ bw := bw_in 176 (by decide +kernel) (by decide +kernel)
theorem w_178 : Cond.laysFinal "PropertyDocuments$Outline" "PropertyDocuments$Outline" "types" "[I" ∈ bw := bw_in 178 (by decide +kernel) (by decide +kernel)
theorem w_180 : Cond.laysFinal "PropertyDocuments$Outline" "PropertyDocuments$Outline" "names" "[I" ∈ bw := bw_in 180 (by decide +kernel) (by decide +kernel)
theorem w_182 : Cond.laysFinal "PropertyDocuments$Outline" "PropertyDocuments$Outline" "contents" "[I" ∈ bw := bw_in 182 (by decide +kernel) (by decide +kernel)
theorem w_184 : Cond.laysFinal "PropertyDocuments$Outline" "PropertyDocuments$Outline" "holders" "[I" ∈ bw := bw_in 184 (by decide +kernel) (by decide +kernel)
theorem w_186 : Cond.laysFinal "PropertyDocuments$Outline" "PropertyDocuments$Outline" "inners" "[I" ∈ bw := bw_in 186 (by decide +kernel) (by decide +kernel)
theorem w_188 : Cond.lays "PropertyDocuments$Outline" "PropertyDocuments$Outline" "elementCount" "I" ∈ bw := bw_in 188 (by decide +kernel) (by decide +kernel)
theorem w_190 : Cond.lays "PropertyDocuments$Outline" "PropertyDocuments$Outline" "documentCount" "I" ∈ bw := bw_in 190 (by decide +kernel) (by decide +kernel)
theorem w_192 : Cond.lays "PropertyDocuments$Outline" "PropertyDocuments$Outline" "deepest" "I" ∈ bw := bw_in 192 (by decide +kernel) (by decide +kernel)
theorem w_195 : Cond.classLink "PropertyDocuments" 48 "PropertyDocuments$Fitting" ∈ bw := bw_in 195 (by decide +kernel) (by decide +kernel)
theorem w_196 : Cond.instantiable "PropertyDocuments$Fitting" 5 ∈ bw := bw_in 196 (by decide +kernel) (by decide +kernel)
theorem w_197 : Cond.methodLink "PropertyDocuments" 50 yF_init ∈ bw := bw_in 197 (by decide +kernel) (by decide +kernel)
theorem w_198 : Cond.instanceMethod yF_init ∈ bw := bw_in 198 (by decide +kernel) (by decide +kernel)
theorem w_199 : Cond.code yF_init prog_4_method_1_code 4 none ∈ bw := bw_in 199 (by decide +kernel) (by decide +kernel)
theorem w_200 : Cond.methodLink "PropertyDocuments$Fitting" 3 ⟨"java/lang/Object", "<init>", "()V"⟩ ∈ bw := bw_in 200 (by decide +kernel) (by decide +kernel)
theorem w_201 : Cond.fieldLink "PropertyDocuments$Fitting" 20 "PropertyDocuments$Fitting" "description" "LPropertyDocuments$Description;" ∈ bw := bw_in 201 (by decide +kernel) (by decide +kernel)
theorem w_202 : Cond.fieldLink "PropertyDocuments$Fitting" 24 "PropertyDocuments$Fitting" "bytes" "LPropertyDocuments$Bytes;" ∈ bw := bw_in 202 (by decide +kernel) (by decide +kernel)
theorem w_203 : Cond.fieldLink "PropertyDocuments$Fitting" 28 "PropertyDocuments$Fitting" "outline" "LPropertyDocuments$Outline;" ∈ bw := bw_in 203 (by decide +kernel) (by decide +kernel)
theorem w_204 : Cond.fieldLink "PropertyDocuments$Fitting" 11 "PropertyDocuments$Fitting" "wanted" "[I" ∈ bw := bw_in 204 (by decide +kernel) (by decide +kernel)
theorem w_205 : Cond.fieldLink "PropertyDocuments$Fitting" 17 "PropertyDocuments$Fitting" "meant" "[I" ∈ bw := bw_in 205 (by decide +kernel) (by decide +kernel)
theorem w_206 : Cond.laysFinal "PropertyDocuments$Fitting" "PropertyDocuments$Fitting" "description" "LPropertyDocuments$Description;" ∈ bw := bw_in 206 (by decide +kernel) (by decide +kernel)
theorem w_208 : Cond.laysFinal "PropertyDocuments$Fitting" "PropertyDocuments$Fitting" "bytes" "LPropertyDocuments$Bytes;" ∈ bw := bw_in 208 (by decide +kernel) (by decide +kernel)
theorem w_210 : Cond.laysFinal "PropertyDocuments$Fitting" "PropertyDocuments$Fitting" "outline" "LPropertyDocuments$Outline;" ∈ bw := bw_in 210 (by decide +kernel) (by decide +kernel)
theorem w_212 : Cond.laysFinal "PropertyDocuments$Fitting" "PropertyDocuments$Fitting" "wanted" "[I" ∈ bw := bw_in 212 (by decide +kernel) (by decide +kernel)
theorem w_214 : Cond.laysFinal "PropertyDocuments$Fitting" "PropertyDocuments$Fitting" "meant" "[I" ∈ bw := bw_in 214 (by decide +kernel) (by decide +kernel)
theorem w_217 : Cond.fieldLink "PropertyDocuments" 10 "PropertyDocuments" "description" "LPropertyDocuments$Description;" ∈ bw := bw_in 217 (by decide +kernel) (by decide +kernel)
theorem w_218 : Cond.fieldLink "PropertyDocuments" 19 "PropertyDocuments" "instances" "LPropertyDocuments$Instances;" ∈ bw := bw_in 218 (by decide +kernel) (by decide +kernel)
theorem w_219 : Cond.fieldLink "PropertyDocuments" 26 "PropertyDocuments" "buffer" "LPropertyDocuments$Bytes;" ∈ bw := bw_in 219 (by decide +kernel) (by decide +kernel)
theorem w_220 : Cond.fieldLink "PropertyDocuments" 35 "PropertyDocuments" "writer" "LPropertyDocuments$Writer;" ∈ bw := bw_in 220 (by decide +kernel) (by decide +kernel)
theorem w_221 : Cond.fieldLink "PropertyDocuments" 44 "PropertyDocuments" "outline" "LPropertyDocuments$Outline;" ∈ bw := bw_in 221 (by decide +kernel) (by decide +kernel)
theorem w_222 : Cond.fieldLink "PropertyDocuments" 53 "PropertyDocuments" "fitting" "LPropertyDocuments$Fitting;" ∈ bw := bw_in 222 (by decide +kernel) (by decide +kernel)
theorem w_223 : Cond.laysFinal "PropertyDocuments" "PropertyDocuments" "description" "LPropertyDocuments$Description;" ∈ bw := bw_in 223 (by decide +kernel) (by decide +kernel)
theorem w_225 : Cond.laysFinal "PropertyDocuments" "PropertyDocuments" "instances" "LPropertyDocuments$Instances;" ∈ bw := bw_in 225 (by decide +kernel) (by decide +kernel)
theorem w_227 : Cond.laysFinal "PropertyDocuments" "PropertyDocuments" "buffer" "LPropertyDocuments$Bytes;" ∈ bw := bw_in 227 (by decide +kernel) (by decide +kernel)
theorem w_229 : Cond.laysFinal "PropertyDocuments" "PropertyDocuments" "writer" "LPropertyDocuments$Writer;" ∈ bw := bw_in 229 (by decide +kernel) (by decide +kernel)
theorem w_231 : Cond.laysFinal "PropertyDocuments" "PropertyDocuments" "outline" "LPropertyDocuments$Outline;" ∈ bw := bw_in 231 (by decide +kernel) (by decide +kernel)
theorem w_233 : Cond.laysFinal "PropertyDocuments" "PropertyDocuments" "fitting" "LPropertyDocuments$Fitting;" ∈ bw := bw_in 233 (by decide +kernel) (by decide +kernel)
theorem w_236 : Cond.methodLink "PropertyDocumentsLaw" 13 yP_define ∈ bw := bw_in 236 (by decide +kernel) (by decide +kernel)
theorem w_237 : Cond.instanceMethod yP_define ∈ bw := bw_in 237 (by decide +kernel) (by decide +kernel)
theorem w_238 : Cond.selects "PropertyDocuments" yP_define yP_define ∈ bw := bw_in 238 (by decide +kernel) (by decide +kernel)
theorem w_239 : Cond.code yP_define prog_1_method_2_code 2 (some .int) ∈ bw := bw_in 239 (by decide +kernel) (by decide +kernel)
theorem w_240 : Cond.methodLink "PropertyDocuments" 61 yD_addClass ∈ bw := bw_in 240 (by decide +kernel) (by decide +kernel)
theorem w_241 : Cond.instanceMethod yD_addClass ∈ bw := bw_in 241 (by decide +kernel) (by decide +kernel)
theorem w_242 : Cond.selects "PropertyDocuments$Description" yD_addClass yD_addClass ∈ bw := bw_in 242 (by decide +kernel) (by decide +kernel)
theorem w_243 : Cond.code yD_addClass prog_3_method_4_code 2 (some .int) ∈ bw := bw_in 243 (by decide +kernel) (by decide +kernel)
theorem w_244 : Cond.methodLink "PropertyDocuments$Description" 34 yD_hasClass ∈ bw := bw_in 244 (by decide +kernel) (by decide +kernel)
theorem w_245 : Cond.instanceMethod yD_hasClass ∈ bw := bw_in 245 (by decide +kernel) (by decide +kernel)
theorem w_246 : Cond.selects "PropertyDocuments$Description" yD_hasClass yD_hasClass ∈ bw := bw_in 246 (by decide +kernel) (by decide +kernel)
theorem w_247 : Cond.code yD_hasClass prog_3_method_2_code 2 (some .boolean) ∈ bw := bw_in 247 (by decide +kernel) (by decide +kernel)
theorem w_248 : Cond.methodLink "PropertyDocumentsLaw" 18 yP_property ∈ bw := bw_in 248 (by decide +kernel) (by decide +kernel)
theorem w_249 : Cond.instanceMethod yP_property ∈ bw := bw_in 249 (by decide +kernel) (by decide +kernel)
theorem w_250 : Cond.selects "PropertyDocuments" yP_property yP_property ∈ bw := bw_in 250 (by decide +kernel) (by decide +kernel)
theorem w_251 : Cond.code yP_property prog_1_method_3_code 5 (some .boolean) ∈ bw := bw_in 251 (by decide +kernel) (by decide +kernel)
theorem w_252 : Cond.methodLink "PropertyDocuments" 65 yD_addProperty ∈ bw := bw_in 252 (by decide +kernel) (by decide +kernel)
theorem w_253 : Cond.instanceMethod yD_addProperty ∈ bw := bw_in 253 (by decide +kernel) (by decide +kernel)
theorem w_254 : Cond.selects "PropertyDocuments$Description" yD_addProperty yD_addProperty ∈ bw := bw_in 254 (by decide +kernel) (by decide +kernel)
theorem w_255 : Cond.code yD_addProperty prog_3_method_5_code 5 (some .boolean) ∈ bw := bw_in 255 (by decide +kernel) (by decide +kernel)
theorem w_256 : Cond.methodLink "PropertyDocuments$Description" 38 yD_isTaken ∈ bw := bw_in 256 (by decide +kernel) (by decide +kernel)
theorem w_258 : Cond.instanceMethod yD_isTaken ∈ bw := bw_in 258 (by decide +kernel) (by decide +kernel)
theorem w_259 : Cond.code yD_isTaken prog_3_method_6_code 4 (some .boolean) ∈ bw := bw_in 259 (by decide +kernel) (by decide +kernel)
theorem w_260 : Cond.methodLink "PropertyDocuments$Description" 42 yD_isKindOf ∈ bw := bw_in 260 (by decide +kernel) (by decide +kernel)
theorem w_261 : Cond.instanceMethod yD_isKindOf ∈ bw := bw_in 261 (by decide +kernel) (by decide +kernel)
theorem w_262 : Cond.selects "PropertyDocuments$Description" yD_isKindOf yD_isKindOf ∈ bw := bw_in 262 (by decide +kernel) (by decide +kernel)
theorem w_263 : Cond.code yD_isKindOf prog_3_method_7_code 5 (some .boolean) ∈ bw := bw_in 263 (by decide +kernel) (by decide +kernel)
theorem w_264 : Cond.methodLink "PropertyDocumentsLaw" 23 yP_make ∈ bw := bw_in 264 (by decide +kernel) (by decide +kernel)
theorem w_265 : Cond.instanceMethod yP_make ∈ bw := bw_in 265 (by decide +kernel) (by decide +kernel)
theorem w_266 : Cond.selects "PropertyDocuments" yP_make yP_make ∈ bw := bw_in 266 (by decide +kernel) (by decide +kernel)
theorem w_267 : Cond.code yP_make prog_1_method_4_code 2 (some .int) ∈ bw := bw_in 267 (by decide +kernel) (by decide +kernel)
theorem w_268 : Cond.methodLink "PropertyDocuments" 69 yD_hasClass ∈ bw := bw_in 268 (by decide +kernel) (by decide +kernel)
theorem w_269 : Cond.methodLink "PropertyDocuments" 73 yI_add ∈ bw := bw_in 269 (by decide +kernel) (by decide +kernel)
theorem w_270 : Cond.instanceMethod yI_add ∈ bw := bw_in 270 (by decide +kernel) (by decide +kernel)
theorem w_271 : Cond.selects "PropertyDocuments$Instances" yI_add yI_add ∈ bw := bw_in 271 (by decide +kernel) (by decide +kernel)
theorem w_272 : Cond.code yI_add prog_5_method_4_code 4 (some .int) ∈ bw := bw_in 272 (by decide +kernel) (by decide +kernel)
theorem w_273 : Cond.methodLink "PropertyDocuments$Instances" 30 yI_setValue ∈ bw := bw_in 273 (by decide +kernel) (by decide +kernel)
theorem w_274 : Cond.instanceMethod yI_setValue ∈ bw := bw_in 274 (by decide +kernel) (by decide +kernel)
theorem w_275 : Cond.selects "PropertyDocuments$Instances" yI_setValue yI_setValue ∈ bw := bw_in 275 (by decide +kernel) (by decide +kernel)
theorem w_276 : Cond.code yI_setValue prog_5_method_9_code 5 none ∈ bw := bw_in 276 (by decide +kernel) (by decide +kernel)
theorem w_277 : Cond.methodLink "PropertyDocuments$Instances" 38 yI_hasCell ∈ bw := bw_in 277 (by decide +kernel) (by decide +kernel)
theorem w_279 : Cond.instanceMethod yI_hasCell ∈ bw := bw_in 279 (by decide +kernel) (by decide +kernel)
theorem w_280 : Cond.code yI_hasCell prog_5_method_5_code 3 (some .boolean) ∈ bw := bw_in 280 (by decide +kernel) (by decide +kernel)
theorem w_281 : Cond.methodLink "PropertyDocuments$Instances" 26 yI_has ∈ bw := bw_in 281 (by decide +kernel) (by decide +kernel)
theorem w_282 : Cond.instanceMethod yI_has ∈ bw := bw_in 282 (by decide +kernel) (by decide +kernel)
theorem w_283 : Cond.selects "PropertyDocuments$Instances" yI_has yI_has ∈ bw := bw_in 283 (by decide +kernel) (by decide +kernel)
theorem w_284 : Cond.code yI_has prog_5_method_2_code 2 (some .boolean) ∈ bw := bw_in 284 (by decide +kernel) (by decide +kernel)
theorem w_285 : Cond.methodLink "PropertyDocuments$Instances" 42 yI_cell ∈ bw := bw_in 285 (by decide +kernel) (by decide +kernel)
theorem w_287 : Cond.instanceMethod yI_cell ∈ bw := bw_in 287 (by decide +kernel) (by decide +kernel)
theorem w_288 : Cond.code yI_cell prog_5_method_6_code 3 (some .int) ∈ bw := bw_in 288 (by decide +kernel) (by decide +kernel)
theorem w_289 : Cond.methodLink "PropertyDocuments$Instances" 34 yI_setPartner ∈ bw := bw_in 289 (by decide +kernel) (by decide +kernel)
theorem w_290 : Cond.instanceMethod yI_setPartner ∈ bw := bw_in 290 (by decide +kernel) (by decide +kernel)
theorem w_291 : Cond.selects "PropertyDocuments$Instances" yI_setPartner yI_setPartner ∈ bw := bw_in 291 (by decide +kernel) (by decide +kernel)
theorem w_292 : Cond.code yI_setPartner prog_5_method_10_code 4 none ∈ bw := bw_in 292 (by decide +kernel) (by decide +kernel)
theorem w_293 : Cond.methodLink "PropertyDocumentsLaw" 29 yP_put ∈ bw := bw_in 293 (by decide +kernel) (by decide +kernel)
theorem w_294 : Cond.instanceMethod yP_put ∈ bw := bw_in 294 (by decide +kernel) (by decide +kernel)
theorem w_295 : Cond.selects "PropertyDocuments" yP_put yP_put ∈ bw := bw_in 295 (by decide +kernel) (by decide +kernel)
theorem w_296 : Cond.code yP_put prog_1_method_5_code 6 (some .boolean) ∈ bw := bw_in 296 (by decide +kernel) (by decide +kernel)
theorem w_297 : Cond.methodLink "PropertyDocuments" 76 yP_propertyOfObject ∈ bw := bw_in 297 (by decide +kernel) (by decide +kernel)
theorem w_299 : Cond.instanceMethod yP_propertyOfObject ∈ bw := bw_in 299 (by decide +kernel) (by decide +kernel)
theorem w_300 : Cond.code yP_propertyOfObject prog_1_method_21_code 3 (some .int) ∈ bw := bw_in 300 (by decide +kernel) (by decide +kernel)
theorem w_301 : Cond.methodLink "PropertyDocuments" 91 yI_kind ∈ bw := bw_in 301 (by decide +kernel) (by decide +kernel)
theorem w_302 : Cond.instanceMethod yI_kind ∈ bw := bw_in 302 (by decide +kernel) (by decide +kernel)
theorem w_303 : Cond.selects "PropertyDocuments$Instances" yI_kind yI_kind ∈ bw := bw_in 303 (by decide +kernel) (by decide +kernel)
theorem w_304 : Cond.code yI_kind prog_5_method_3_code 2 (some .int) ∈ bw := bw_in 304 (by decide +kernel) (by decide +kernel)
theorem w_305 : Cond.methodLink "PropertyDocuments" 150 yD_propertyOf ∈ bw := bw_in 305 (by decide +kernel) (by decide +kernel)
theorem w_306 : Cond.instanceMethod yD_propertyOf ∈ bw := bw_in 306 (by decide +kernel) (by decide +kernel)
theorem w_307 : Cond.selects "PropertyDocuments$Description" yD_propertyOf yD_propertyOf ∈ bw := bw_in 307 (by decide +kernel) (by decide +kernel)
theorem w_308 : Cond.code yD_propertyOf prog_3_method_8_code 4 (some .int) ∈ bw := bw_in 308 (by decide +kernel) (by decide +kernel)
theorem w_309 : Cond.methodLink "PropertyDocuments" 80 yD_allowsValue ∈ bw := bw_in 309 (by decide +kernel) (by decide +kernel)
theorem w_310 : Cond.instanceMethod yD_allowsValue ∈ bw := bw_in 310 (by decide +kernel) (by decide +kernel)
theorem w_311 : Cond.selects "PropertyDocuments$Description" yD_allowsValue yD_allowsValue ∈ bw := bw_in 311 (by decide +kernel) (by decide +kernel)
theorem w_312 : Cond.code yD_allowsValue prog_3_method_14_code 4 (some .boolean) ∈ bw := bw_in 312 (by decide +kernel) (by decide +kernel)
theorem w_313 : Cond.methodLink "PropertyDocuments$Description" 48 yD_sort ∈ bw := bw_in 313 (by decide +kernel) (by decide +kernel)
theorem w_314 : Cond.instanceMethod yD_sort ∈ bw := bw_in 314 (by decide +kernel) (by decide +kernel)
theorem w_315 : Cond.selects "PropertyDocuments$Description" yD_sort yD_sort ∈ bw := bw_in 315 (by decide +kernel) (by decide +kernel)
theorem w_316 : Cond.code yD_sort prog_3_method_11_code 2 (some .int) ∈ bw := bw_in 316 (by decide +kernel) (by decide +kernel)
theorem w_317 : Cond.methodLink "PropertyDocuments$Description" 45 yD_hasProperty ∈ bw := bw_in 317 (by decide +kernel) (by decide +kernel)
theorem w_318 : Cond.instanceMethod yD_hasProperty ∈ bw := bw_in 318 (by decide +kernel) (by decide +kernel)
theorem w_319 : Cond.selects "PropertyDocuments$Description" yD_hasProperty yD_hasProperty ∈ bw := bw_in 319 (by decide +kernel) (by decide +kernel)
theorem w_320 : Cond.code yD_hasProperty prog_3_method_3_code 2 (some .boolean) ∈ bw := bw_in 320 (by decide +kernel) (by decide +kernel)
theorem w_321 : Cond.methodLink "PropertyDocuments" 84 yI_setValue ∈ bw := bw_in 321 (by decide +kernel) (by decide +kernel)
theorem w_322 : Cond.methodLink "PropertyDocumentsLaw" 34 yP_link ∈ bw := bw_in 322 (by decide +kernel) (by decide +kernel)
theorem w_323 : Cond.instanceMethod yP_link ∈ bw := bw_in 323 (by decide +kernel) (by decide +kernel)
theorem w_324 : Cond.selects "PropertyDocuments" yP_link yP_link ∈ bw := bw_in 324 (by decide +kernel) (by decide +kernel)
theorem w_325 : Cond.code yP_link prog_1_method_6_code 5 (some .boolean) ∈ bw := bw_in 325 (by decide +kernel) (by decide +kernel)
theorem w_326 : Cond.methodLink "PropertyDocuments" 88 yD_isLink ∈ bw := bw_in 326 (by decide +kernel) (by decide +kernel)
theorem w_327 : Cond.instanceMethod yD_isLink ∈ bw := bw_in 327 (by decide +kernel) (by decide +kernel)
theorem w_328 : Cond.selects "PropertyDocuments$Description" yD_isLink yD_isLink ∈ bw := bw_in 328 (by decide +kernel) (by decide +kernel)
theorem w_329 : Cond.code yD_isLink prog_3_method_13_code 2 (some .boolean) ∈ bw := bw_in 329 (by decide +kernel) (by decide +kernel)
theorem w_330 : Cond.methodLink "PropertyDocuments" 94 yD_target ∈ bw := bw_in 330 (by decide +kernel) (by decide +kernel)
theorem w_331 : Cond.instanceMethod yD_target ∈ bw := bw_in 331 (by decide +kernel) (by decide +kernel)
theorem w_332 : Cond.selects "PropertyDocuments$Description" yD_target yD_target ∈ bw := bw_in 332 (by decide +kernel) (by decide +kernel)
theorem w_333 : Cond.code yD_target prog_3_method_12_code 2 (some .int) ∈ bw := bw_in 333 (by decide +kernel) (by decide +kernel)
theorem w_334 : Cond.methodLink "PropertyDocuments" 97 yD_isKindOf ∈ bw := bw_in 334 (by decide +kernel) (by decide +kernel)
theorem w_335 : Cond.methodLink "PropertyDocuments" 101 yI_setPartner ∈ bw := bw_in 335 (by decide +kernel) (by decide +kernel)
theorem w_336 : Cond.methodLink "PropertyDocumentsLaw" 39 yP_value ∈ bw := bw_in 336 (by decide +kernel) (by decide +kernel)
theorem w_337 : Cond.instanceMethod yP_value ∈ bw := bw_in 337 (by decide +kernel) (by decide +kernel)
theorem w_338 : Cond.selects "PropertyDocuments" yP_value yP_value ∈ bw := bw_in 338 (by decide +kernel) (by decide +kernel)
theorem w_339 : Cond.code yP_value prog_1_method_7_code 3 (some .long) ∈ bw := bw_in 339 (by decide +kernel) (by decide +kernel)
theorem w_340 : Cond.methodLink "PropertyDocuments" 105 yI_valueAt ∈ bw := bw_in 340 (by decide +kernel) (by decide +kernel)
theorem w_341 : Cond.instanceMethod yI_valueAt ∈ bw := bw_in 341 (by decide +kernel) (by decide +kernel)
theorem w_342 : Cond.selects "PropertyDocuments$Instances" yI_valueAt yI_valueAt ∈ bw := bw_in 342 (by decide +kernel) (by decide +kernel)
theorem w_343 : Cond.code yI_valueAt prog_5_method_7_code 3 (some .long) ∈ bw := bw_in 343 (by decide +kernel) (by decide +kernel)
theorem w_344 : Cond.methodLink "PropertyDocumentsLaw" 44 yP_linked ∈ bw := bw_in 344 (by decide +kernel) (by decide +kernel)
theorem w_345 : Cond.instanceMethod yP_linked ∈ bw := bw_in 345 (by decide +kernel) (by decide +kernel)
theorem w_346 : Cond.selects "PropertyDocuments" yP_linked yP_linked ∈ bw := bw_in 346 (by decide +kernel) (by decide +kernel)
theorem w_347 : Cond.code yP_linked prog_1_method_8_code 3 (some .int) ∈ bw := bw_in 347 (by decide +kernel) (by decide +kernel)
theorem w_348 : Cond.methodLink "PropertyDocuments" 109 yI_partnerAt ∈ bw := bw_in 348 (by decide +kernel) (by decide +kernel)
theorem w_349 : Cond.instanceMethod yI_partnerAt ∈ bw := bw_in 349 (by decide +kernel) (by decide +kernel)
theorem w_350 : Cond.selects "PropertyDocuments$Instances" yI_partnerAt yI_partnerAt ∈ bw := bw_in 350 (by decide +kernel) (by decide +kernel)
theorem w_351 : Cond.code yI_partnerAt prog_5_method_8_code 3 (some .int) ∈ bw := bw_in 351 (by decide +kernel) (by decide +kernel)
theorem w_352 : Cond.methodLink "PropertyDocumentsLaw" 49 yP_classOf ∈ bw := bw_in 352 (by decide +kernel) (by decide +kernel)
theorem w_353 : Cond.instanceMethod yP_classOf ∈ bw := bw_in 353 (by decide +kernel) (by decide +kernel)
theorem w_354 : Cond.selects "PropertyDocuments" yP_classOf yP_classOf ∈ bw := bw_in 354 (by decide +kernel) (by decide +kernel)
theorem w_355 : Cond.code yP_classOf prog_1_method_9_code 2 (some .int) ∈ bw := bw_in 355 (by decide +kernel) (by decide +kernel)
theorem w_356 : Cond.methodLink "PropertyDocumentsLaw" 53 yP_objects ∈ bw := bw_in 356 (by decide +kernel) (by decide +kernel)
theorem w_357 : Cond.instanceMethod yP_objects ∈ bw := bw_in 357 (by decide +kernel) (by decide +kernel)
theorem w_358 : Cond.selects "PropertyDocuments" yP_objects yP_objects ∈ bw := bw_in 358 (by decide +kernel) (by decide +kernel)
theorem w_359 : Cond.code yP_objects prog_1_method_10_code 1 (some .int) ∈ bw := bw_in 359 (by decide +kernel) (by decide +kernel)
theorem w_360 : Cond.methodLink "PropertyDocumentsLaw" 58 yP_drop ∈ bw := bw_in 360 (by decide +kernel) (by decide +kernel)
theorem w_361 : Cond.instanceMethod yP_drop ∈ bw := bw_in 361 (by decide +kernel) (by decide +kernel)
theorem w_362 : Cond.selects "PropertyDocuments" yP_drop yP_drop ∈ bw := bw_in 362 (by decide +kernel) (by decide +kernel)
theorem w_363 : Cond.code yP_drop prog_1_method_11_code 1 none ∈ bw := bw_in 363 (by decide +kernel) (by decide +kernel)
theorem w_364 : Cond.methodLink "PropertyDocumentsLaw" 62 yP_encode ∈ bw := bw_in 364 (by decide +kernel) (by decide +kernel)
theorem w_365 : Cond.instanceMethod yP_encode ∈ bw := bw_in 365 (by decide +kernel) (by decide +kernel)
theorem w_366 : Cond.selects "PropertyDocuments" yP_encode yP_encode ∈ bw := bw_in 366 (by decide +kernel) (by decide +kernel)
theorem w_367 : Cond.code yP_encode prog_1_method_12_code 3 (some .int) ∈ bw := bw_in 367 (by decide +kernel) (by decide +kernel)
theorem w_368 : Cond.methodLink "PropertyDocuments" 112 yW_write ∈ bw := bw_in 368 (by decide +kernel) (by decide +kernel)
theorem w_369 : Cond.instanceMethod yW_write ∈ bw := bw_in 369 (by decide +kernel) (by decide +kernel)
theorem w_370 : Cond.selects "PropertyDocuments$Writer" yW_write yW_write ∈ bw := bw_in 370 (by decide +kernel) (by decide +kernel)
theorem w_371 : Cond.code yW_write prog_7_method_2_code 3 (some .boolean) ∈ bw := bw_in 371 (by decide +kernel) (by decide +kernel)
theorem w_372 : Cond.methodLink "PropertyDocuments$Writer" 30 yW_writeDocument ∈ bw := bw_in 372 (by decide +kernel) (by decide +kernel)
theorem w_374 : Cond.instanceMethod yW_writeDocument ∈ bw := bw_in 374 (by decide +kernel) (by decide +kernel)
theorem w_375 : Cond.code yW_writeDocument prog_7_method_3_code 8 (some .boolean) ∈ bw := bw_in 375 (by decide +kernel) (by decide +kernel)
theorem w_376 : Cond.methodLink "PropertyDocuments$Writer" 34 yI_kind ∈ bw := bw_in 376 (by decide +kernel) (by decide +kernel)
theorem w_377 : Cond.methodLink "PropertyDocuments$Writer" 40 yB_addNumber ∈ bw := bw_in 377 (by decide +kernel) (by decide +kernel)
theorem w_378 : Cond.instanceMethod yB_addNumber ∈ bw := bw_in 378 (by decide +kernel) (by decide +kernel)
theorem w_379 : Cond.selects "PropertyDocuments$Bytes" yB_addNumber yB_addNumber ∈ bw := bw_in 379 (by decide +kernel) (by decide +kernel)
theorem w_380 : Cond.code yB_addNumber prog_2_method_5_code 6 (some .boolean) ∈ bw := bw_in 380 (by decide +kernel) (by decide +kernel)
theorem w_381 : Cond.methodLink "PropertyDocuments$Bytes" 19 yB_lowByte ∈ bw := bw_in 381 (by decide +kernel) (by decide +kernel)
theorem w_383 : Cond.instanceMethod yB_lowByte ∈ bw := bw_in 383 (by decide +kernel) (by decide +kernel)
theorem w_384 : Cond.code yB_lowByte prog_2_method_7_code 4 (some .int) ∈ bw := bw_in 384 (by decide +kernel) (by decide +kernel)
theorem w_385 : Cond.methodLink "PropertyDocuments$Bytes" 23 yB_add ∈ bw := bw_in 385 (by decide +kernel) (by decide +kernel)
theorem w_386 : Cond.instanceMethod yB_add ∈ bw := bw_in 386 (by decide +kernel) (by decide +kernel)
theorem w_387 : Cond.selects "PropertyDocuments$Bytes" yB_add yB_add ∈ bw := bw_in 387 (by decide +kernel) (by decide +kernel)
theorem w_388 : Cond.code yB_add prog_2_method_3_code 2 (some .boolean) ∈ bw := bw_in 388 (by decide +kernel) (by decide +kernel)
theorem w_389 : Cond.methodLink "PropertyDocuments$Writer" 44 yW_writeMark ∈ bw := bw_in 389 (by decide +kernel) (by decide +kernel)
theorem w_391 : Cond.instanceMethod yW_writeMark ∈ bw := bw_in 391 (by decide +kernel) (by decide +kernel)
theorem w_392 : Cond.code yW_writeMark prog_7_method_4_code 2 (some .boolean) ∈ bw := bw_in 392 (by decide +kernel) (by decide +kernel)
theorem w_393 : Cond.methodLink "PropertyDocuments$Writer" 57 yB_add ∈ bw := bw_in 393 (by decide +kernel) (by decide +kernel)
theorem w_394 : Cond.constantLong "PropertyDocuments$Writer" 64 2 ∈ bw := bw_in 394 (by decide +kernel) (by decide +kernel)
theorem w_395 : Cond.methodLink "PropertyDocuments$Writer" 48 yD_isKindOf ∈ bw := bw_in 395 (by decide +kernel) (by decide +kernel)
theorem w_396 : Cond.methodLink "PropertyDocuments$Writer" 54 yW_writeOwnProperties ∈ bw := bw_in 396 (by decide +kernel) (by decide +kernel)
theorem w_398 : Cond.instanceMethod yW_writeOwnProperties ∈ bw := bw_in 398 (by decide +kernel) (by decide +kernel)
theorem w_399 : Cond.code yW_writeOwnProperties prog_7_method_5_code 6 (some .boolean) ∈ bw := bw_in 399 (by decide +kernel) (by decide +kernel)
theorem w_400 : Cond.methodLink "PropertyDocuments$Writer" 66 yD_isOwn ∈ bw := bw_in 400 (by decide +kernel) (by decide +kernel)
theorem w_401 : Cond.instanceMethod yD_isOwn ∈ bw := bw_in 401 (by decide +kernel) (by decide +kernel)
theorem w_402 : Cond.selects "PropertyDocuments$Description" yD_isOwn yD_isOwn ∈ bw := bw_in 402 (by decide +kernel) (by decide +kernel)
theorem w_403 : Cond.code yD_isOwn prog_3_method_9_code 3 (some .boolean) ∈ bw := bw_in 403 (by decide +kernel) (by decide +kernel)
theorem w_404 : Cond.methodLink "PropertyDocuments$Writer" 69 yW_writeProperty ∈ bw := bw_in 404 (by decide +kernel) (by decide +kernel)
theorem w_406 : Cond.instanceMethod yW_writeProperty ∈ bw := bw_in 406 (by decide +kernel) (by decide +kernel)
theorem w_407 : Cond.code yW_writeProperty prog_7_method_6_code 8 (some .boolean) ∈ bw := bw_in 407 (by decide +kernel) (by decide +kernel)
theorem w_408 : Cond.methodLink "PropertyDocuments$Writer" 72 yD_letter ∈ bw := bw_in 408 (by decide +kernel) (by decide +kernel)
theorem w_409 : Cond.instanceMethod yD_letter ∈ bw := bw_in 409 (by decide +kernel) (by decide +kernel)
theorem w_410 : Cond.selects "PropertyDocuments$Description" yD_letter yD_letter ∈ bw := bw_in 410 (by decide +kernel) (by decide +kernel)
theorem w_411 : Cond.code yD_letter prog_3_method_10_code 2 (some .int) ∈ bw := bw_in 411 (by decide +kernel) (by decide +kernel)
theorem w_412 : Cond.methodLink "PropertyDocuments$Writer" 75 yI_valueAt ∈ bw := bw_in 412 (by decide +kernel) (by decide +kernel)
theorem w_413 : Cond.methodLink "PropertyDocuments$Writer" 79 yD_sort ∈ bw := bw_in 413 (by decide +kernel) (by decide +kernel)
theorem w_414 : Cond.methodLink "PropertyDocuments$Writer" 82 yW_writeHead ∈ bw := bw_in 414 (by decide +kernel) (by decide +kernel)
theorem w_416 : Cond.instanceMethod yW_writeHead ∈ bw := bw_in 416 (by decide +kernel) (by decide +kernel)
theorem w_417 : Cond.code yW_writeHead prog_7_method_8_code 3 (some .boolean) ∈ bw := bw_in 417 (by decide +kernel) (by decide +kernel)
theorem w_418 : Cond.methodLink "PropertyDocuments$Writer" 85 yI_partnerAt ∈ bw := bw_in 418 (by decide +kernel) (by decide +kernel)
theorem w_419 : Cond.methodLink "PropertyDocuments$Writer" 89 yD_target ∈ bw := bw_in 419 (by decide +kernel) (by decide +kernel)
theorem w_420 : Cond.methodLink "PropertyDocuments$Writer" 92 yW_writeLink ∈ bw := bw_in 420 (by decide +kernel) (by decide +kernel)
theorem w_422 : Cond.instanceMethod yW_writeLink ∈ bw := bw_in 422 (by decide +kernel) (by decide +kernel)
theorem w_423 : Cond.code yW_writeLink prog_7_method_7_code 5 (some .boolean) ∈ bw := bw_in 423 (by decide +kernel) (by decide +kernel)
theorem w_424 : Cond.methodLink "PropertyDocuments$Writer" 60 yB_replaceNumber ∈ bw := bw_in 424 (by decide +kernel) (by decide +kernel)
theorem w_425 : Cond.instanceMethod yB_replaceNumber ∈ bw := bw_in 425 (by decide +kernel) (by decide +kernel)
theorem w_426 : Cond.selects "PropertyDocuments$Bytes" yB_replaceNumber yB_replaceNumber ∈ bw := bw_in 426 (by decide +kernel) (by decide +kernel)
theorem w_427 : Cond.code yB_replaceNumber prog_2_method_6_code 6 none ∈ bw := bw_in 427 (by decide +kernel) (by decide +kernel)
theorem w_428 : Cond.methodLink "PropertyDocuments$Bytes" 27 yB_replace ∈ bw := bw_in 428 (by decide +kernel) (by decide +kernel)
theorem w_429 : Cond.instanceMethod yB_replace ∈ bw := bw_in 429 (by decide +kernel) (by decide +kernel)
theorem w_430 : Cond.selects "PropertyDocuments$Bytes" yB_replace yB_replace ∈ bw := bw_in 430 (by decide +kernel) (by decide +kernel)
theorem w_431 : Cond.code yB_replace prog_2_method_4_code 3 (some .boolean) ∈ bw := bw_in 431 (by decide +kernel) (by decide +kernel)
theorem w_432 : Cond.methodLink "PropertyDocuments" 118 yB_copyFrom ∈ bw := bw_in 432 (by decide +kernel) (by decide +kernel)
theorem w_433 : Cond.instanceMethod yB_copyFrom ∈ bw := bw_in 433 (by decide +kernel) (by decide +kernel)
theorem w_434 : Cond.selects "PropertyDocuments$Bytes" yB_copyFrom yB_copyFrom ∈ bw := bw_in 434 (by decide +kernel) (by decide +kernel)
theorem w_435 : Cond.code yB_copyFrom prog_2_method_11_code 2 none ∈ bw := bw_in 435 (by decide +kernel) (by decide +kernel)
theorem w_436 : Cond.methodLink "PropertyDocuments$Bytes" 40 ⟨"java/lang/System", "arraycopy", "(Ljava/lang/Object;ILjava/lang/Object;II)V"⟩ ∈ bw := bw_in 436 (by decide +kernel) (by decide +kernel)
theorem w_437 : Cond.static ⟨"java/lang/System", "arraycopy", "(Ljava/lang/Object;ILjava/lang/Object;II)V"⟩ ∈ bw := bw_in 437 (by decide +kernel) (by decide +kernel)
theorem w_438 : Cond.native ⟨"java/lang/System", "arraycopy", "(Ljava/lang/Object;ILjava/lang/Object;II)V"⟩ ∈ bw := bw_in 438 (by decide +kernel) (by decide +kernel)
theorem w_439 : Cond.methodLink "PropertyDocumentsLaw" 66 yP_decode ∈ bw := bw_in 439 (by decide +kernel) (by decide +kernel)
theorem w_440 : Cond.instanceMethod yP_decode ∈ bw := bw_in 440 (by decide +kernel) (by decide +kernel)
theorem w_441 : Cond.selects "PropertyDocuments" yP_decode yP_decode ∈ bw := bw_in 441 (by decide +kernel) (by decide +kernel)
theorem w_442 : Cond.code yP_decode prog_1_method_13_code 2 (some .int) ∈ bw := bw_in 442 (by decide +kernel) (by decide +kernel)
theorem w_443 : Cond.methodLink "PropertyDocuments" 122 yO_read ∈ bw := bw_in 443 (by decide +kernel) (by decide +kernel)
theorem w_444 : Cond.instanceMethod yO_read ∈ bw := bw_in 444 (by decide +kernel) (by decide +kernel)
theorem w_445 : Cond.selects "PropertyDocuments$Outline" yO_read yO_read ∈ bw := bw_in 445 (by decide +kernel) (by decide +kernel)
theorem w_446 : Cond.code yO_read prog_6_method_2_code 1 (some .boolean) ∈ bw := bw_in 446 (by decide +kernel) (by decide +kernel)
theorem w_447 : Cond.methodLink "PropertyDocuments$Outline" 41 yO_readDocument ∈ bw := bw_in 447 (by decide +kernel) (by decide +kernel)
theorem w_449 : Cond.instanceMethod yO_readDocument ∈ bw := bw_in 449 (by decide +kernel) (by decide +kernel)
theorem w_450 : Cond.code yO_readDocument prog_6_method_3_code 6 (some .int) ∈ bw := bw_in 450 (by decide +kernel) (by decide +kernel)
theorem w_451 : Cond.methodLink "PropertyDocuments$Outline" 50 yB_holds ∈ bw := bw_in 451 (by decide +kernel) (by decide +kernel)
theorem w_452 : Cond.instanceMethod yB_holds ∈ bw := bw_in 452 (by decide +kernel) (by decide +kernel)
theorem w_453 : Cond.selects "PropertyDocuments$Bytes" yB_holds yB_holds ∈ bw := bw_in 453 (by decide +kernel) (by decide +kernel)
theorem w_454 : Cond.code yB_holds prog_2_method_8_code 3 (some .boolean) ∈ bw := bw_in 454 (by decide +kernel) (by decide +kernel)
theorem w_455 : Cond.methodLink "PropertyDocuments$Outline" 54 ⟨"java/lang/Math", "max", "(II)I"⟩ ∈ bw := bw_in 455 (by decide +kernel) (by decide +kernel)
theorem w_456 : Cond.static ⟨"java/lang/Math", "max", "(II)I"⟩ ∈ bw := bw_in 456 (by decide +kernel) (by decide +kernel)
theorem w_457 : Cond.code ⟨"java/lang/Math", "max", "(II)I"⟩ prog_10_method_65_code 2 (some .int) ∈ bw := bw_in 457 (by decide +kernel) (by decide +kernel)
theorem w_458 : Cond.methodLink "PropertyDocuments$Outline" 59 yB_at ∈ bw := bw_in 458 (by decide +kernel) (by decide +kernel)
theorem w_459 : Cond.instanceMethod yB_at ∈ bw := bw_in 459 (by decide +kernel) (by decide +kernel)
theorem w_460 : Cond.selects "PropertyDocuments$Bytes" yB_at yB_at ∈ bw := bw_in 460 (by decide +kernel) (by decide +kernel)
theorem w_461 : Cond.code yB_at prog_2_method_2_code 2 (some .int) ∈ bw := bw_in 461 (by decide +kernel) (by decide +kernel)
theorem w_462 : Cond.methodLink "PropertyDocuments$Outline" 63 yO_readElement ∈ bw := bw_in 462 (by decide +kernel) (by decide +kernel)
theorem w_464 : Cond.instanceMethod yO_readElement ∈ bw := bw_in 464 (by decide +kernel) (by decide +kernel)
theorem w_465 : Cond.code yO_readElement prog_6_method_4_code 7 (some .int) ∈ bw := bw_in 465 (by decide +kernel) (by decide +kernel)
theorem w_466 : Cond.methodLink "PropertyDocuments$Outline" 70 yO_endOfText ∈ bw := bw_in 466 (by decide +kernel) (by decide +kernel)
theorem w_468 : Cond.instanceMethod yO_endOfText ∈ bw := bw_in 468 (by decide +kernel) (by decide +kernel)
theorem w_469 : Cond.code yO_endOfText prog_6_method_7_code 4 (some .int) ∈ bw := bw_in 469 (by decide +kernel) (by decide +kernel)
theorem w_470 : Cond.methodLink "PropertyDocuments$Outline" 73 yO_readContent ∈ bw := bw_in 470 (by decide +kernel) (by decide +kernel)
theorem w_472 : Cond.instanceMethod yO_readContent ∈ bw := bw_in 472 (by decide +kernel) (by decide +kernel)
theorem w_473 : Cond.code yO_readContent prog_6_method_5_code 4 (some .int) ∈ bw := bw_in 473 (by decide +kernel) (by decide +kernel)
theorem w_474 : Cond.methodLink "PropertyDocuments$Outline" 76 yO_readText ∈ bw := bw_in 474 (by decide +kernel) (by decide +kernel)
theorem w_476 : Cond.instanceMethod yO_readText ∈ bw := bw_in 476 (by decide +kernel) (by decide +kernel)
theorem w_477 : Cond.code yO_readText prog_6_method_6_code 5 (some .int) ∈ bw := bw_in 477 (by decide +kernel) (by decide +kernel)
theorem w_478 : Cond.methodLink "PropertyDocuments$Outline" 67 yB_intAt ∈ bw := bw_in 478 (by decide +kernel) (by decide +kernel)
theorem w_479 : Cond.instanceMethod yB_intAt ∈ bw := bw_in 479 (by decide +kernel) (by decide +kernel)
theorem w_480 : Cond.selects "PropertyDocuments$Bytes" yB_intAt yB_intAt ∈ bw := bw_in 480 (by decide +kernel) (by decide +kernel)
theorem w_481 : Cond.code yB_intAt prog_2_method_9_code 4 (some .int) ∈ bw := bw_in 481 (by decide +kernel) (by decide +kernel)
theorem w_482 : Cond.methodLink "PropertyDocuments$Bytes" 31 yB_at ∈ bw := bw_in 482 (by decide +kernel) (by decide +kernel)
theorem w_483 : Cond.methodLink "PropertyDocuments" 126 yF_fits ∈ bw := bw_in 483 (by decide +kernel) (by decide +kernel)
theorem w_484 : Cond.instanceMethod yF_fits ∈ bw := bw_in 484 (by decide +kernel) (by decide +kernel)
theorem w_485 : Cond.selects "PropertyDocuments$Fitting" yF_fits yF_fits ∈ bw := bw_in 485 (by decide +kernel) (by decide +kernel)
theorem w_486 : Cond.code yF_fits prog_4_method_2_code 4 (some .boolean) ∈ bw := bw_in 486 (by decide +kernel) (by decide +kernel)
theorem w_487 : Cond.methodLink "PropertyDocuments$Fitting" 36 yF_findMeant ∈ bw := bw_in 487 (by decide +kernel) (by decide +kernel)
theorem w_489 : Cond.instanceMethod yF_findMeant ∈ bw := bw_in 489 (by decide +kernel) (by decide +kernel)
theorem w_490 : Cond.code yF_findMeant prog_4_method_3_code 5 (some .int) ∈ bw := bw_in 490 (by decide +kernel) (by decide +kernel)
theorem w_491 : Cond.methodLink "PropertyDocuments$Fitting" 47 yO_holder ∈ bw := bw_in 491 (by decide +kernel) (by decide +kernel)
theorem w_492 : Cond.instanceMethod yO_holder ∈ bw := bw_in 492 (by decide +kernel) (by decide +kernel)
theorem w_493 : Cond.selects "PropertyDocuments$Outline" yO_holder yO_holder ∈ bw := bw_in 493 (by decide +kernel) (by decide +kernel)
theorem w_494 : Cond.code yO_holder prog_6_method_11_code 2 (some .int) ∈ bw := bw_in 494 (by decide +kernel) (by decide +kernel)
theorem w_495 : Cond.methodLink "PropertyDocuments$Outline" 79 yO_hasElement ∈ bw := bw_in 495 (by decide +kernel) (by decide +kernel)
theorem w_497 : Cond.instanceMethod yO_hasElement ∈ bw := bw_in 497 (by decide +kernel) (by decide +kernel)
theorem w_498 : Cond.code yO_hasElement prog_6_method_8_code 2 (some .boolean) ∈ bw := bw_in 498 (by decide +kernel) (by decide +kernel)
theorem w_499 : Cond.methodLink "PropertyDocuments$Fitting" 50 yO_isMark ∈ bw := bw_in 499 (by decide +kernel) (by decide +kernel)
theorem w_500 : Cond.instanceMethod yO_isMark ∈ bw := bw_in 500 (by decide +kernel) (by decide +kernel)
theorem w_501 : Cond.selects "PropertyDocuments$Outline" yO_isMark yO_isMark ∈ bw := bw_in 501 (by decide +kernel) (by decide +kernel)
theorem w_502 : Cond.code yO_isMark prog_6_method_13_code 2 (some .boolean) ∈ bw := bw_in 502 (by decide +kernel) (by decide +kernel)
theorem w_503 : Cond.methodLink "PropertyDocuments$Outline" 83 yO_nameByte ∈ bw := bw_in 503 (by decide +kernel) (by decide +kernel)
theorem w_505 : Cond.instanceMethod yO_nameByte ∈ bw := bw_in 505 (by decide +kernel) (by decide +kernel)
theorem w_506 : Cond.code yO_nameByte prog_6_method_15_code 3 (some .int) ∈ bw := bw_in 506 (by decide +kernel) (by decide +kernel)
theorem w_507 : Cond.methodLink "PropertyDocuments$Fitting" 53 yF_markedClass ∈ bw := bw_in 507 (by decide +kernel) (by decide +kernel)
theorem w_509 : Cond.instanceMethod yF_markedClass ∈ bw := bw_in 509 (by decide +kernel) (by decide +kernel)
theorem w_510 : Cond.code yF_markedClass prog_4_method_4_code 4 (some .int) ∈ bw := bw_in 510 (by decide +kernel) (by decide +kernel)
theorem w_511 : Cond.methodLink "PropertyDocuments$Fitting" 62 yO_content ∈ bw := bw_in 511 (by decide +kernel) (by decide +kernel)
theorem w_512 : Cond.instanceMethod yO_content ∈ bw := bw_in 512 (by decide +kernel) (by decide +kernel)
theorem w_513 : Cond.selects "PropertyDocuments$Outline" yO_content yO_content ∈ bw := bw_in 513 (by decide +kernel) (by decide +kernel)
theorem w_514 : Cond.code yO_content prog_6_method_10_code 2 (some .int) ∈ bw := bw_in 514 (by decide +kernel) (by decide +kernel)
theorem w_515 : Cond.methodLink "PropertyDocuments$Fitting" 65 yO_type ∈ bw := bw_in 515 (by decide +kernel) (by decide +kernel)
theorem w_516 : Cond.instanceMethod yO_type ∈ bw := bw_in 516 (by decide +kernel) (by decide +kernel)
theorem w_517 : Cond.selects "PropertyDocuments$Outline" yO_type yO_type ∈ bw := bw_in 517 (by decide +kernel) (by decide +kernel)
theorem w_518 : Cond.code yO_type prog_6_method_9_code 2 (some .int) ∈ bw := bw_in 518 (by decide +kernel) (by decide +kernel)
theorem w_519 : Cond.methodLink "PropertyDocuments$Fitting" 68 yB_intAt ∈ bw := bw_in 519 (by decide +kernel) (by decide +kernel)
theorem w_520 : Cond.methodLink "PropertyDocuments$Fitting" 73 yB_at ∈ bw := bw_in 520 (by decide +kernel) (by decide +kernel)
theorem w_521 : Cond.methodLink "PropertyDocuments$Fitting" 56 yD_isKindOf ∈ bw := bw_in 521 (by decide +kernel) (by decide +kernel)
theorem w_522 : Cond.methodLink "PropertyDocuments$Fitting" 40 yF_elementsFit ∈ bw := bw_in 522 (by decide +kernel) (by decide +kernel)
theorem w_524 : Cond.instanceMethod yF_elementsFit ∈ bw := bw_in 524 (by decide +kernel) (by decide +kernel)
theorem w_525 : Cond.code yF_elementsFit prog_4_method_5_code 5 (some .boolean) ∈ bw := bw_in 525 (by decide +kernel) (by decide +kernel)
theorem w_526 : Cond.methodLink "PropertyDocuments$Fitting" 76 yF_propertyFor ∈ bw := bw_in 526 (by decide +kernel) (by decide +kernel)
theorem w_528 : Cond.instanceMethod yF_propertyFor ∈ bw := bw_in 528 (by decide +kernel) (by decide +kernel)
theorem w_529 : Cond.code yF_propertyFor prog_4_method_7_code 4 (some .int) ∈ bw := bw_in 529 (by decide +kernel) (by decide +kernel)
theorem w_530 : Cond.methodLink "PropertyDocuments$Fitting" 92 yO_letter ∈ bw := bw_in 530 (by decide +kernel) (by decide +kernel)
theorem w_531 : Cond.instanceMethod yO_letter ∈ bw := bw_in 531 (by decide +kernel) (by decide +kernel)
theorem w_532 : Cond.selects "PropertyDocuments$Outline" yO_letter yO_letter ∈ bw := bw_in 532 (by decide +kernel) (by decide +kernel)
theorem w_533 : Cond.code yO_letter prog_6_method_14_code 3 (some .int) ∈ bw := bw_in 533 (by decide +kernel) (by decide +kernel)
theorem w_534 : Cond.methodLink "PropertyDocuments$Fitting" 95 yD_propertyOf ∈ bw := bw_in 534 (by decide +kernel) (by decide +kernel)
theorem w_535 : Cond.methodLink "PropertyDocuments$Fitting" 79 yD_allowsType ∈ bw := bw_in 535 (by decide +kernel) (by decide +kernel)
theorem w_536 : Cond.instanceMethod yD_allowsType ∈ bw := bw_in 536 (by decide +kernel) (by decide +kernel)
theorem w_537 : Cond.selects "PropertyDocuments$Description" yD_allowsType yD_allowsType ∈ bw := bw_in 537 (by decide +kernel) (by decide +kernel)
theorem w_538 : Cond.code yD_allowsType prog_3_method_15_code 3 (some .boolean) ∈ bw := bw_in 538 (by decide +kernel) (by decide +kernel)
theorem w_539 : Cond.methodLink "PropertyDocuments$Fitting" 82 yF_wantInside ∈ bw := bw_in 539 (by decide +kernel) (by decide +kernel)
theorem w_541 : Cond.instanceMethod yF_wantInside ∈ bw := bw_in 541 (by decide +kernel) (by decide +kernel)
theorem w_542 : Cond.code yF_wantInside prog_4_method_6_code 4 none ∈ bw := bw_in 542 (by decide +kernel) (by decide +kernel)
theorem w_543 : Cond.methodLink "PropertyDocuments$Fitting" 86 yO_inner ∈ bw := bw_in 543 (by decide +kernel) (by decide +kernel)
theorem w_544 : Cond.instanceMethod yO_inner ∈ bw := bw_in 544 (by decide +kernel) (by decide +kernel)
theorem w_545 : Cond.selects "PropertyDocuments$Outline" yO_inner yO_inner ∈ bw := bw_in 545 (by decide +kernel) (by decide +kernel)
theorem w_546 : Cond.code yO_inner prog_6_method_12_code 2 (some .int) ∈ bw := bw_in 546 (by decide +kernel) (by decide +kernel)
theorem w_547 : Cond.methodLink "PropertyDocuments$Fitting" 89 yD_target ∈ bw := bw_in 547 (by decide +kernel) (by decide +kernel)
theorem w_548 : Cond.methodLink "PropertyDocuments" 132 yF_fill ∈ bw := bw_in 548 (by decide +kernel) (by decide +kernel)
theorem w_549 : Cond.instanceMethod yF_fill ∈ bw := bw_in 549 (by decide +kernel) (by decide +kernel)
theorem w_550 : Cond.selects "PropertyDocuments$Fitting" yF_fill yF_fill ∈ bw := bw_in 550 (by decide +kernel) (by decide +kernel)
theorem w_551 : Cond.code yF_fill prog_4_method_8_code 4 (some .int) ∈ bw := bw_in 551 (by decide +kernel) (by decide +kernel)
theorem w_552 : Cond.methodLink "PropertyDocuments$Fitting" 104 yI_add ∈ bw := bw_in 552 (by decide +kernel) (by decide +kernel)
theorem w_553 : Cond.methodLink "PropertyDocuments$Fitting" 107 yF_fillProperty ∈ bw := bw_in 553 (by decide +kernel) (by decide +kernel)
theorem w_555 : Cond.instanceMethod yF_fillProperty ∈ bw := bw_in 555 (by decide +kernel) (by decide +kernel)
theorem w_556 : Cond.code yF_fillProperty prog_4_method_9_code 6 none ∈ bw := bw_in 556 (by decide +kernel) (by decide +kernel)
theorem w_557 : Cond.methodLink "PropertyDocuments$Fitting" 111 yD_isLink ∈ bw := bw_in 557 (by decide +kernel) (by decide +kernel)
theorem w_558 : Cond.methodLink "PropertyDocuments$Fitting" 114 yF_numberIn ∈ bw := bw_in 558 (by decide +kernel) (by decide +kernel)
theorem w_560 : Cond.instanceMethod yF_numberIn ∈ bw := bw_in 560 (by decide +kernel) (by decide +kernel)
theorem w_561 : Cond.code yF_numberIn prog_4_method_10_code 3 (some .long) ∈ bw := bw_in 561 (by decide +kernel) (by decide +kernel)
theorem w_562 : Cond.methodLink "PropertyDocuments$Fitting" 126 yB_longAt ∈ bw := bw_in 562 (by decide +kernel) (by decide +kernel)
theorem w_563 : Cond.instanceMethod yB_longAt ∈ bw := bw_in 563 (by decide +kernel) (by decide +kernel)
theorem w_564 : Cond.selects "PropertyDocuments$Bytes" yB_longAt yB_longAt ∈ bw := bw_in 564 (by decide +kernel) (by decide +kernel)
theorem w_565 : Cond.code yB_longAt prog_2_method_10_code 6 (some .long) ∈ bw := bw_in 565 (by decide +kernel) (by decide +kernel)
theorem w_566 : Cond.methodLink "PropertyDocuments$Bytes" 35 yB_intAt ∈ bw := bw_in 566 (by decide +kernel) (by decide +kernel)
theorem w_567 : Cond.constantLong "PropertyDocuments$Bytes" 38 4294967295 ∈ bw := bw_in 567 (by decide +kernel) (by decide +kernel)
theorem w_568 : Cond.methodLink "PropertyDocuments$Fitting" 118 yI_setValue ∈ bw := bw_in 568 (by decide +kernel) (by decide +kernel)
theorem w_569 : Cond.methodLink "PropertyDocuments$Fitting" 122 yI_setPartner ∈ bw := bw_in 569 (by decide +kernel) (by decide +kernel)
theorem w_570 : Cond.methodLink "PropertyDocumentsLaw" 70 yP_sound ∈ bw := bw_in 570 (by decide +kernel) (by decide +kernel)
theorem w_571 : Cond.instanceMethod yP_sound ∈ bw := bw_in 571 (by decide +kernel) (by decide +kernel)
theorem w_572 : Cond.selects "PropertyDocuments" yP_sound yP_sound ∈ bw := bw_in 572 (by decide +kernel) (by decide +kernel)
theorem w_573 : Cond.code yP_sound prog_1_method_14_code 1 (some .boolean) ∈ bw := bw_in 573 (by decide +kernel) (by decide +kernel)
theorem w_574 : Cond.methodLink "PropertyDocumentsLaw" 75 yP_depth ∈ bw := bw_in 574 (by decide +kernel) (by decide +kernel)
theorem w_575 : Cond.instanceMethod yP_depth ∈ bw := bw_in 575 (by decide +kernel) (by decide +kernel)
theorem w_576 : Cond.selects "PropertyDocuments" yP_depth yP_depth ∈ bw := bw_in 576 (by decide +kernel) (by decide +kernel)
theorem w_577 : Cond.code yP_depth prog_1_method_15_code 1 (some .int) ∈ bw := bw_in 577 (by decide +kernel) (by decide +kernel)
theorem w_578 : Cond.methodLink "PropertyDocumentsLaw" 79 yP_elements ∈ bw := bw_in 578 (by decide +kernel) (by decide +kernel)
theorem w_579 : Cond.instanceMethod yP_elements ∈ bw := bw_in 579 (by decide +kernel) (by decide +kernel)
theorem w_580 : Cond.selects "PropertyDocuments" yP_elements yP_elements ∈ bw := bw_in 580 (by decide +kernel) (by decide +kernel)
theorem w_581 : Cond.code yP_elements prog_1_method_16_code 1 (some .int) ∈ bw := bw_in 581 (by decide +kernel) (by decide +kernel)
theorem w_582 : Cond.methodLink "PropertyDocumentsLaw" 83 yP_size ∈ bw := bw_in 582 (by decide +kernel) (by decide +kernel)
theorem w_583 : Cond.instanceMethod yP_size ∈ bw := bw_in 583 (by decide +kernel) (by decide +kernel)
theorem w_584 : Cond.selects "PropertyDocuments" yP_size yP_size ∈ bw := bw_in 584 (by decide +kernel) (by decide +kernel)
theorem w_585 : Cond.code yP_size prog_1_method_17_code 1 (some .int) ∈ bw := bw_in 585 (by decide +kernel) (by decide +kernel)
theorem w_586 : Cond.methodLink "PropertyDocumentsLaw" 87 yP_byteAt ∈ bw := bw_in 586 (by decide +kernel) (by decide +kernel)
theorem w_587 : Cond.instanceMethod yP_byteAt ∈ bw := bw_in 587 (by decide +kernel) (by decide +kernel)
theorem w_588 : Cond.selects "PropertyDocuments" yP_byteAt yP_byteAt ∈ bw := bw_in 588 (by decide +kernel) (by decide +kernel)
theorem w_589 : Cond.code yP_byteAt prog_1_method_18_code 2 (some .int) ∈ bw := bw_in 589 (by decide +kernel) (by decide +kernel)
theorem w_590 : Cond.methodLink "PropertyDocuments" 142 yB_at ∈ bw := bw_in 590 (by decide +kernel) (by decide +kernel)
theorem w_591 : Cond.methodLink "PropertyDocumentsLaw" 91 yP_poke ∈ bw := bw_in 591 (by decide +kernel) (by decide +kernel)
theorem w_592 : Cond.instanceMethod yP_poke ∈ bw := bw_in 592 (by decide +kernel) (by decide +kernel)
theorem w_593 : Cond.selects "PropertyDocuments" yP_poke yP_poke ∈ bw := bw_in 593 (by decide +kernel) (by decide +kernel)
theorem w_594 : Cond.code yP_poke prog_1_method_19_code 3 (some .boolean) ∈ bw := bw_in 594 (by decide +kernel) (by decide +kernel)
theorem w_595 : Cond.methodLink "PropertyDocuments" 145 yB_add ∈ bw := bw_in 595 (by decide +kernel) (by decide +kernel)
theorem w_596 : Cond.methodLink "PropertyDocuments" 147 yB_replace ∈ bw := bw_in 596 (by decide +kernel) (by decide +kernel)
theorem w_597 : Cond.methodLink "PropertyDocumentsLaw" 96 yP_cut ∈ bw := bw_in 597 (by decide +kernel) (by decide +kernel)
theorem w_598 : Cond.instanceMethod yP_cut ∈ bw := bw_in 598 (by decide +kernel) (by decide +kernel)
theorem w_599 : Cond.selects "PropertyDocuments" yP_cut yP_cut ∈ bw := bw_in 599 (by decide +kernel) (by decide +kernel)
theorem w_600 : Cond.code yP_cut prog_1_method_20_code 2 (some .boolean) ∈ bw := bw_in 600 (by decide +kernel) (by decide +kernel)
theorem w_601 : Cond.classLink "PropertyDocumentsLaw" 10 "PropertyDocumentsModel" ∈ bw := bw_in 601 (by decide +kernel) (by decide +kernel)
theorem w_602 : Cond.instantiable "PropertyDocumentsModel" 35 ∈ bw := bw_in 602 (by decide +kernel) (by decide +kernel)
theorem w_603 : Cond.methodLink "PropertyDocumentsLaw" 12 yM_init ∈ bw := bw_in 603 (by decide +kernel) (by decide +kernel)
theorem w_604 : Cond.instanceMethod yM_init ∈ bw := bw_in 604 (by decide +kernel) (by decide +kernel)
theorem w_605 : Cond.code yM_init prog_9_method_1_code 1 none ∈ bw := bw_in 605 (by decide +kernel) (by decide +kernel)
theorem w_606 : Cond.methodLink "PropertyDocumentsModel" 1 ⟨"java/lang/Object", "<init>", "()V"⟩ ∈ bw := bw_in 606 (by decide +kernel) (by decide +kernel)
theorem w_607 : Cond.fieldLink "PropertyDocumentsModel" 80 "PropertyDocumentsModel" "classes" "I" ∈ bw := bw_in 607 (by decide +kernel) (by decide +kernel)
theorem w_608 : Cond.fieldLink "PropertyDocumentsModel" 7 "PropertyDocumentsModel" "parent" "[I" ∈ bw := bw_in 608 (by decide +kernel) (by decide +kernel)
theorem w_609 : Cond.fieldLink "PropertyDocumentsModel" 88 "PropertyDocumentsModel" "given" "I" ∈ bw := bw_in 609 (by decide +kernel) (by decide +kernel)
theorem w_610 : Cond.fieldLink "PropertyDocumentsModel" 13 "PropertyDocumentsModel" "owner" "[I" ∈ bw := bw_in 610 (by decide +kernel) (by decide +kernel)
theorem w_611 : Cond.fieldLink "PropertyDocumentsModel" 16 "PropertyDocumentsModel" "letters" "[I" ∈ bw := bw_in 611 (by decide +kernel) (by decide +kernel)
theorem w_612 : Cond.fieldLink "PropertyDocumentsModel" 19 "PropertyDocumentsModel" "sorts" "[I" ∈ bw := bw_in 612 (by decide +kernel) (by decide +kernel)
theorem w_613 : Cond.fieldLink "PropertyDocumentsModel" 22 "PropertyDocumentsModel" "targets" "[I" ∈ bw := bw_in 613 (by decide +kernel) (by decide +kernel)
theorem w_614 : Cond.fieldLink "PropertyDocumentsModel" 98 "PropertyDocumentsModel" "count" "I" ∈ bw := bw_in 614 (by decide +kernel) (by decide +kernel)
theorem w_615 : Cond.fieldLink "PropertyDocumentsModel" 25 "PropertyDocumentsModel" "cls" "[I" ∈ bw := bw_in 615 (by decide +kernel) (by decide +kernel)
theorem w_616 : Cond.fieldLink "PropertyDocumentsModel" 28 "PropertyDocumentsModel" "held" "[J" ∈ bw := bw_in 616 (by decide +kernel) (by decide +kernel)
theorem w_617 : Cond.fieldLink "PropertyDocumentsModel" 155 "PropertyDocumentsModel" "size" "I" ∈ bw := bw_in 617 (by decide +kernel) (by decide +kernel)
theorem w_618 : Cond.fieldLink "PropertyDocumentsModel" 32 "PropertyDocumentsModel" "bytes" "[I" ∈ bw := bw_in 618 (by decide +kernel) (by decide +kernel)
theorem w_619 : Cond.fieldLink "PropertyDocumentsModel" 121 "PropertyDocumentsModel" "len" "I" ∈ bw := bw_in 619 (by decide +kernel) (by decide +kernel)
theorem w_620 : Cond.fieldLink "PropertyDocumentsModel" 124 "PropertyDocumentsModel" "failed" "Z" ∈ bw := bw_in 620 (by decide +kernel) (by decide +kernel)
theorem w_621 : Cond.fieldLink "PropertyDocumentsModel" 35 "PropertyDocumentsModel" "out" "[I" ∈ bw := bw_in 621 (by decide +kernel) (by decide +kernel)
theorem w_622 : Cond.fieldLink "PropertyDocumentsModel" 133 "PropertyDocumentsModel" "open" "I" ∈ bw := bw_in 622 (by decide +kernel) (by decide +kernel)
theorem w_623 : Cond.fieldLink "PropertyDocumentsModel" 38 "PropertyDocumentsModel" "openObject" "[I" ∈ bw := bw_in 623 (by decide +kernel) (by decide +kernel)
theorem w_624 : Cond.fieldLink "PropertyDocumentsModel" 41 "PropertyDocumentsModel" "openStart" "[I" ∈ bw := bw_in 624 (by decide +kernel) (by decide +kernel)
theorem w_625 : Cond.fieldLink "PropertyDocumentsModel" 44 "PropertyDocumentsModel" "openNext" "[I" ∈ bw := bw_in 625 (by decide +kernel) (by decide +kernel)
theorem w_626 : Cond.fieldLink "PropertyDocumentsModel" 158 "PropertyDocumentsModel" "at" "I" ∈ bw := bw_in 626 (by decide +kernel) (by decide +kernel)
theorem w_627 : Cond.fieldLink "PropertyDocumentsModel" 161 "PropertyDocumentsModel" "bad" "Z" ∈ bw := bw_in 627 (by decide +kernel) (by decide +kernel)
theorem w_628 : Cond.fieldLink "PropertyDocumentsModel" 171 "PropertyDocumentsModel" "docs" "I" ∈ bw := bw_in 628 (by decide +kernel) (by decide +kernel)
theorem w_629 : Cond.fieldLink "PropertyDocumentsModel" 47 "PropertyDocumentsModel" "docStart" "[I" ∈ bw := bw_in 629 (by decide +kernel) (by decide +kernel)
theorem w_630 : Cond.fieldLink "PropertyDocumentsModel" 50 "PropertyDocumentsModel" "docDepth" "[I" ∈ bw := bw_in 630 (by decide +kernel) (by decide +kernel)
theorem w_631 : Cond.fieldLink "PropertyDocumentsModel" 53 "PropertyDocumentsModel" "docNeed" "[I" ∈ bw := bw_in 631 (by decide +kernel) (by decide +kernel)
theorem w_632 : Cond.fieldLink "PropertyDocumentsModel" 56 "PropertyDocumentsModel" "docMeant" "[I" ∈ bw := bw_in 632 (by decide +kernel) (by decide +kernel)
theorem w_633 : Cond.fieldLink "PropertyDocumentsModel" 177 "PropertyDocumentsModel" "elems" "I" ∈ bw := bw_in 633 (by decide +kernel) (by decide +kernel)
theorem w_634 : Cond.fieldLink "PropertyDocumentsModel" 59 "PropertyDocumentsModel" "elemDoc" "[I" ∈ bw := bw_in 634 (by decide +kernel) (by decide +kernel)
theorem w_635 : Cond.fieldLink "PropertyDocumentsModel" 62 "PropertyDocumentsModel" "elemType" "[I" ∈ bw := bw_in 635 (by decide +kernel) (by decide +kernel)
theorem w_636 : Cond.fieldLink "PropertyDocumentsModel" 65 "PropertyDocumentsModel" "elemName" "[I" ∈ bw := bw_in 636 (by decide +kernel) (by decide +kernel)
theorem w_637 : Cond.fieldLink "PropertyDocumentsModel" 68 "PropertyDocumentsModel" "elemNameLen" "[I" ∈ bw := bw_in 637 (by decide +kernel) (by decide +kernel)
theorem w_638 : Cond.fieldLink "PropertyDocumentsModel" 71 "PropertyDocumentsModel" "elemContent" "[I" ∈ bw := bw_in 638 (by decide +kernel) (by decide +kernel)
theorem w_639 : Cond.fieldLink "PropertyDocumentsModel" 74 "PropertyDocumentsModel" "elemChild" "[I" ∈ bw := bw_in 639 (by decide +kernel) (by decide +kernel)
theorem w_640 : Cond.fieldLink "PropertyDocumentsModel" 168 "PropertyDocumentsModel" "deep" "I" ∈ bw := bw_in 640 (by decide +kernel) (by decide +kernel)
theorem w_641 : Cond.fieldLink "PropertyDocumentsModel" 77 "PropertyDocumentsModel" "deepDoc" "[I" ∈ bw := bw_in 641 (by decide +kernel) (by decide +kernel)
theorem w_642 : Cond.lays "PropertyDocumentsModel" "PropertyDocumentsModel" "classes" "I" ∈ bw := bw_in 642 (by decide +kernel) (by decide +kernel)
theorem w_644 : Cond.lays "PropertyDocumentsModel" "PropertyDocumentsModel" "parent" "[I" ∈ bw := bw_in 644 (by decide +kernel) (by decide +kernel)
theorem w_646 : Cond.lays "PropertyDocumentsModel" "PropertyDocumentsModel" "given" "I" ∈ bw := bw_in 646 (by decide +kernel) (by decide +kernel)
theorem w_648 : Cond.lays "PropertyDocumentsModel" "PropertyDocumentsModel" "owner" "[I" ∈ bw := bw_in 648 (by decide +kernel) (by decide +kernel)
theorem w_650 : Cond.lays "PropertyDocumentsModel" "PropertyDocumentsModel" "letters" "[I" ∈ bw := bw_in 650 (by decide +kernel) (by decide +kernel)
theorem w_652 : Cond.lays "PropertyDocumentsModel" "PropertyDocumentsModel" "sorts" "[I" ∈ bw := bw_in 652 (by decide +kernel) (by decide +kernel)
theorem w_654 : Cond.lays "PropertyDocumentsModel" "PropertyDocumentsModel" "targets" "[I" ∈ bw := bw_in 654 (by decide +kernel) (by decide +kernel)
theorem w_656 : Cond.lays "PropertyDocumentsModel" "PropertyDocumentsModel" "count" "I" ∈ bw := bw_in 656 (by decide +kernel) (by decide +kernel)
theorem w_658 : Cond.lays "PropertyDocumentsModel" "PropertyDocumentsModel" "cls" "[I" ∈ bw := bw_in 658 (by decide +kernel) (by decide +kernel)
theorem w_660 : Cond.lays "PropertyDocumentsModel" "PropertyDocumentsModel" "held" "[J" ∈ bw := bw_in 660 (by decide +kernel) (by decide +kernel)
theorem w_662 : Cond.lays "PropertyDocumentsModel" "PropertyDocumentsModel" "size" "I" ∈ bw := bw_in 662 (by decide +kernel) (by decide +kernel)
theorem w_664 : Cond.lays "PropertyDocumentsModel" "PropertyDocumentsModel" "bytes" "[I" ∈ bw := bw_in 664 (by decide +kernel) (by decide +kernel)
theorem w_666 : Cond.lays "PropertyDocumentsModel" "PropertyDocumentsModel" "len" "I" ∈ bw := bw_in 666 (by decide +kernel) (by decide +kernel)
theorem w_668 : Cond.lays "PropertyDocumentsModel" "PropertyDocumentsModel" "failed" "Z" ∈ bw := bw_in 668 (by decide +kernel) (by decide +kernel)
theorem w_670 : Cond.lays "PropertyDocumentsModel" "PropertyDocumentsModel" "out" "[I" ∈ bw := bw_in 670 (by decide +kernel) (by decide +kernel)
theorem w_672 : Cond.lays "PropertyDocumentsModel" "PropertyDocumentsModel" "open" "I" ∈ bw := bw_in 672 (by decide +kernel) (by decide +kernel)
theorem w_674 : Cond.lays "PropertyDocumentsModel" "PropertyDocumentsModel" "openObject" "[I" ∈ bw := bw_in 674 (by decide +kernel) (by decide +kernel)
theorem w_676 : Cond.lays "PropertyDocumentsModel" "PropertyDocumentsModel" "openStart" "[I" ∈ bw := bw_in 676 (by decide +kernel) (by decide +kernel)
theorem w_678 : Cond.lays "PropertyDocumentsModel" "PropertyDocumentsModel" "openNext" "[I" ∈ bw := bw_in 678 (by decide +kernel) (by decide +kernel)
theorem w_680 : Cond.lays "PropertyDocumentsModel" "PropertyDocumentsModel" "at" "I" ∈ bw := bw_in 680 (by decide +kernel) (by decide +kernel)
theorem w_682 : Cond.lays "PropertyDocumentsModel" "PropertyDocumentsModel" "bad" "Z" ∈ bw := bw_in 682 (by decide +kernel) (by decide +kernel)
theorem w_684 : Cond.lays "PropertyDocumentsModel" "PropertyDocumentsModel" "docs" "I" ∈ bw := bw_in 684 (by decide +kernel) (by decide +kernel)
theorem w_686 : Cond.lays "PropertyDocumentsModel" "PropertyDocumentsModel" "docStart" "[I" ∈ bw := bw_in 686 (by decide +kernel) (by decide +kernel)
theorem w_688 : Cond.lays "PropertyDocumentsModel" "PropertyDocumentsModel" "docDepth" "[I" ∈ bw := bw_in 688 (by decide +kernel) (by decide +kernel)
theorem w_690 : Cond.lays "PropertyDocumentsModel" "PropertyDocumentsModel" "docNeed" "[I" ∈ bw := bw_in 690 (by decide +kernel) (by decide +kernel)
theorem w_692 : Cond.lays "PropertyDocumentsModel" "PropertyDocumentsModel" "docMeant" "[I" ∈ bw := bw_in 692 (by decide +kernel) (by decide +kernel)
theorem w_694 : Cond.lays "PropertyDocumentsModel" "PropertyDocumentsModel" "elems" "I" ∈ bw := bw_in 694 (by decide +kernel) (by decide +kernel)
theorem w_696 : Cond.lays "PropertyDocumentsModel" "PropertyDocumentsModel" "elemDoc" "[I" ∈ bw := bw_in 696 (by decide +kernel) (by decide +kernel)
theorem w_698 : Cond.lays "PropertyDocumentsModel" "PropertyDocumentsModel" "elemType" "[I" ∈ bw := bw_in 698 (by decide +kernel) (by decide +kernel)
theorem w_700 : Cond.lays "PropertyDocumentsModel" "PropertyDocumentsModel" "elemName" "[I" ∈ bw := bw_in 700 (by decide +kernel) (by decide +kernel)
theorem w_702 : Cond.lays "PropertyDocumentsModel" "PropertyDocumentsModel" "elemNameLen" "[I" ∈ bw := bw_in 702 (by decide +kernel) (by decide +kernel)
theorem w_704 : Cond.lays "PropertyDocumentsModel" "PropertyDocumentsModel" "elemContent" "[I" ∈ bw := bw_in 704 (by decide +kernel) (by decide +kernel)
theorem w_706 : Cond.lays "PropertyDocumentsModel" "PropertyDocumentsModel" "elemChild" "[I" ∈ bw := bw_in 706 (by decide +kernel) (by decide +kernel)
theorem w_708 : Cond.lays "PropertyDocumentsModel" "PropertyDocumentsModel" "deep" "I" ∈ bw := bw_in 708 (by decide +kernel) (by decide +kernel)
theorem w_710 : Cond.lays "PropertyDocumentsModel" "PropertyDocumentsModel" "deepDoc" "[I" ∈ bw := bw_in 710 (by decide +kernel) (by decide +kernel)
theorem w_713 : Cond.methodLink "PropertyDocumentsLaw" 17 yM_define ∈ bw := bw_in 713 (by decide +kernel) (by decide +kernel)
theorem w_714 : Cond.instanceMethod yM_define ∈ bw := bw_in 714 (by decide +kernel) (by decide +kernel)
theorem w_715 : Cond.selects "PropertyDocumentsModel" yM_define yM_define ∈ bw := bw_in 715 (by decide +kernel) (by decide +kernel)
theorem w_716 : Cond.code yM_define prog_9_method_7_code 2 (some .int) ∈ bw := bw_in 716 (by decide +kernel) (by decide +kernel)
theorem w_717 : Cond.methodLink "PropertyDocumentsModel" 94 yM_isClass ∈ bw := bw_in 717 (by decide +kernel) (by decide +kernel)
theorem w_719 : Cond.instanceMethod yM_isClass ∈ bw := bw_in 719 (by decide +kernel) (by decide +kernel)
theorem w_720 : Cond.code yM_isClass prog_9_method_2_code 2 (some .boolean) ∈ bw := bw_in 720 (by decide +kernel) (by decide +kernel)
theorem w_721 : Cond.methodLink "PropertyDocumentsLaw" 22 yM_property ∈ bw := bw_in 721 (by decide +kernel) (by decide +kernel)
theorem w_722 : Cond.instanceMethod yM_property ∈ bw := bw_in 722 (by decide +kernel) (by decide +kernel)
theorem w_723 : Cond.selects "PropertyDocumentsModel" yM_property yM_property ∈ bw := bw_in 723 (by decide +kernel) (by decide +kernel)
theorem w_724 : Cond.code yM_property prog_9_method_8_code 6 (some .boolean) ∈ bw := bw_in 724 (by decide +kernel) (by decide +kernel)
theorem w_725 : Cond.methodLink "PropertyDocumentsModel" 84 yM_isKind ∈ bw := bw_in 725 (by decide +kernel) (by decide +kernel)
theorem w_727 : Cond.instanceMethod yM_isKind ∈ bw := bw_in 727 (by decide +kernel) (by decide +kernel)
theorem w_728 : Cond.code yM_isKind prog_9_method_3_code 5 (some .boolean) ∈ bw := bw_in 728 (by decide +kernel) (by decide +kernel)
theorem w_729 : Cond.methodLink "PropertyDocumentsModel" 101 yM_find ∈ bw := bw_in 729 (by decide +kernel) (by decide +kernel)
theorem w_731 : Cond.instanceMethod yM_find ∈ bw := bw_in 731 (by decide +kernel) (by decide +kernel)
theorem w_732 : Cond.code yM_find prog_9_method_5_code 5 (some .int) ∈ bw := bw_in 732 (by decide +kernel) (by decide +kernel)
theorem w_733 : Cond.methodLink "PropertyDocumentsModel" 91 yM_isOf ∈ bw := bw_in 733 (by decide +kernel) (by decide +kernel)
theorem w_735 : Cond.instanceMethod yM_isOf ∈ bw := bw_in 735 (by decide +kernel) (by decide +kernel)
theorem w_736 : Cond.code yM_isOf prog_9_method_4_code 3 (some .boolean) ∈ bw := bw_in 736 (by decide +kernel) (by decide +kernel)
theorem w_737 : Cond.methodLink "PropertyDocumentsLaw" 26 yM_make ∈ bw := bw_in 737 (by decide +kernel) (by decide +kernel)
theorem w_738 : Cond.instanceMethod yM_make ∈ bw := bw_in 738 (by decide +kernel) (by decide +kernel)
theorem w_739 : Cond.selects "PropertyDocumentsModel" yM_make yM_make ∈ bw := bw_in 739 (by decide +kernel) (by decide +kernel)
theorem w_740 : Cond.code yM_make prog_9_method_11_code 2 (some .int) ∈ bw := bw_in 740 (by decide +kernel) (by decide +kernel)
theorem w_741 : Cond.methodLink "PropertyDocumentsModel" 107 yM_clear ∈ bw := bw_in 741 (by decide +kernel) (by decide +kernel)
theorem w_743 : Cond.instanceMethod yM_clear ∈ bw := bw_in 743 (by decide +kernel) (by decide +kernel)
theorem w_744 : Cond.code yM_clear prog_9_method_10_code 3 none ∈ bw := bw_in 744 (by decide +kernel) (by decide +kernel)
theorem w_745 : Cond.constantLong "PropertyDocumentsModel" 105 (-1) ∈ bw := bw_in 745 (by decide +kernel) (by decide +kernel)
theorem w_746 : Cond.methodLink "PropertyDocumentsLaw" 33 yM_put ∈ bw := bw_in 746 (by decide +kernel) (by decide +kernel)
theorem w_747 : Cond.instanceMethod yM_put ∈ bw := bw_in 747 (by decide +kernel) (by decide +kernel)
theorem w_748 : Cond.selects "PropertyDocumentsModel" yM_put yM_put ∈ bw := bw_in 748 (by decide +kernel) (by decide +kernel)
theorem w_749 : Cond.code yM_put prog_9_method_13_code 6 (some .boolean) ∈ bw := bw_in 749 (by decide +kernel) (by decide +kernel)
theorem w_750 : Cond.methodLink "PropertyDocumentsModel" 114 yM_slot ∈ bw := bw_in 750 (by decide +kernel) (by decide +kernel)
theorem w_752 : Cond.instanceMethod yM_slot ∈ bw := bw_in 752 (by decide +kernel) (by decide +kernel)
theorem w_753 : Cond.code yM_slot prog_9_method_12_code 3 (some .int) ∈ bw := bw_in 753 (by decide +kernel) (by decide +kernel)
theorem w_754 : Cond.methodLink "PropertyDocumentsModel" 111 yM_isObject ∈ bw := bw_in 754 (by decide +kernel) (by decide +kernel)
theorem w_756 : Cond.instanceMethod yM_isObject ∈ bw := bw_in 756 (by decide +kernel) (by decide +kernel)
theorem w_757 : Cond.code yM_isObject prog_9_method_9_code 2 (some .boolean) ∈ bw := bw_in 757 (by decide +kernel) (by decide +kernel)
theorem w_758 : Cond.constantLong "PropertyDocumentsModel" 117 (-2147483648) ∈ bw := bw_in 758 (by decide +kernel) (by decide +kernel)
theorem w_759 : Cond.constantLong "PropertyDocumentsModel" 119 2147483647 ∈ bw := bw_in 759 (by decide +kernel) (by decide +kernel)
theorem w_760 : Cond.methodLink "PropertyDocumentsLaw" 38 yM_link ∈ bw := bw_in 760 (by decide +kernel) (by decide +kernel)
theorem w_761 : Cond.instanceMethod yM_link ∈ bw := bw_in 761 (by decide +kernel) (by decide +kernel)
theorem w_762 : Cond.selects "PropertyDocumentsModel" yM_link yM_link ∈ bw := bw_in 762 (by decide +kernel) (by decide +kernel)
theorem w_763 : Cond.code yM_link prog_9_method_14_code 5 (some .boolean) ∈ bw := bw_in 763 (by decide +kernel) (by decide +kernel)
theorem w_764 : Cond.methodLink "PropertyDocumentsLaw" 43 yM_value ∈ bw := bw_in 764 (by decide +kernel) (by decide +kernel)
theorem w_765 : Cond.instanceMethod yM_value ∈ bw := bw_in 765 (by decide +kernel) (by decide +kernel)
theorem w_766 : Cond.selects "PropertyDocumentsModel" yM_value yM_value ∈ bw := bw_in 766 (by decide +kernel) (by decide +kernel)
theorem w_767 : Cond.code yM_value prog_9_method_15_code 4 (some .long) ∈ bw := bw_in 767 (by decide +kernel) (by decide +kernel)
theorem w_768 : Cond.methodLink "PropertyDocumentsLaw" 48 yM_linked ∈ bw := bw_in 768 (by decide +kernel) (by decide +kernel)
theorem w_769 : Cond.instanceMethod yM_linked ∈ bw := bw_in 769 (by decide +kernel) (by decide +kernel)
theorem w_770 : Cond.selects "PropertyDocumentsModel" yM_linked yM_linked ∈ bw := bw_in 770 (by decide +kernel) (by decide +kernel)
theorem w_771 : Cond.code yM_linked prog_9_method_16_code 4 (some .int) ∈ bw := bw_in 771 (by decide +kernel) (by decide +kernel)
theorem w_772 : Cond.methodLink "PropertyDocumentsLaw" 52 yM_classOf ∈ bw := bw_in 772 (by decide +kernel) (by decide +kernel)
theorem w_773 : Cond.instanceMethod yM_classOf ∈ bw := bw_in 773 (by decide +kernel) (by decide +kernel)
theorem w_774 : Cond.selects "PropertyDocumentsModel" yM_classOf yM_classOf ∈ bw := bw_in 774 (by decide +kernel) (by decide +kernel)
theorem w_775 : Cond.code yM_classOf prog_9_method_17_code 2 (some .int) ∈ bw := bw_in 775 (by decide +kernel) (by decide +kernel)
theorem w_776 : Cond.methodLink "PropertyDocumentsLaw" 57 yM_objects ∈ bw := bw_in 776 (by decide +kernel) (by decide +kernel)
theorem w_777 : Cond.instanceMethod yM_objects ∈ bw := bw_in 777 (by decide +kernel) (by decide +kernel)
theorem w_778 : Cond.selects "PropertyDocumentsModel" yM_objects yM_objects ∈ bw := bw_in 778 (by decide +kernel) (by decide +kernel)
theorem w_779 : Cond.code yM_objects prog_9_method_18_code 1 (some .int) ∈ bw := bw_in 779 (by decide +kernel) (by decide +kernel)
theorem w_780 : Cond.methodLink "PropertyDocumentsLaw" 61 yM_drop ∈ bw := bw_in 780 (by decide +kernel) (by decide +kernel)
theorem w_781 : Cond.instanceMethod yM_drop ∈ bw := bw_in 781 (by decide +kernel) (by decide +kernel)
theorem w_782 : Cond.selects "PropertyDocumentsModel" yM_drop yM_drop ∈ bw := bw_in 782 (by decide +kernel) (by decide +kernel)
theorem w_783 : Cond.code yM_drop prog_9_method_19_code 1 none ∈ bw := bw_in 783 (by decide +kernel) (by decide +kernel)
theorem w_784 : Cond.methodLink "PropertyDocumentsLaw" 65 yM_encode ∈ bw := bw_in 784 (by decide +kernel) (by decide +kernel)
theorem w_785 : Cond.instanceMethod yM_encode ∈ bw := bw_in 785 (by decide +kernel) (by decide +kernel)
theorem w_786 : Cond.selects "PropertyDocumentsModel" yM_encode yM_encode ∈ bw := bw_in 786 (by decide +kernel) (by decide +kernel)
theorem w_787 : Cond.code yM_encode prog_9_method_25_code 5 (some .int) ∈ bw := bw_in 787 (by decide +kernel) (by decide +kernel)
theorem w_788 : Cond.methodLink "PropertyDocumentsModel" 142 yM_begin ∈ bw := bw_in 788 (by decide +kernel) (by decide +kernel)
theorem w_790 : Cond.instanceMethod yM_begin ∈ bw := bw_in 790 (by decide +kernel) (by decide +kernel)
theorem w_791 : Cond.code yM_begin prog_9_method_22_code 3 none ∈ bw := bw_in 791 (by decide +kernel) (by decide +kernel)
theorem w_792 : Cond.methodLink "PropertyDocumentsModel" 136 yM_writeNumber ∈ bw := bw_in 792 (by decide +kernel) (by decide +kernel)
theorem w_794 : Cond.instanceMethod yM_writeNumber ∈ bw := bw_in 794 (by decide +kernel) (by decide +kernel)
theorem w_795 : Cond.code yM_writeNumber prog_9_method_21_code 5 none ∈ bw := bw_in 795 (by decide +kernel) (by decide +kernel)
theorem w_796 : Cond.constantLong "PropertyDocumentsModel" 128 255 ∈ bw := bw_in 796 (by decide +kernel) (by decide +kernel)
theorem w_797 : Cond.methodLink "PropertyDocumentsModel" 130 yM_write ∈ bw := bw_in 797 (by decide +kernel) (by decide +kernel)
theorem w_799 : Cond.instanceMethod yM_write ∈ bw := bw_in 799 (by decide +kernel) (by decide +kernel)
theorem w_800 : Cond.code yM_write prog_9_method_20_code 2 none ∈ bw := bw_in 800 (by decide +kernel) (by decide +kernel)
theorem w_801 : Cond.constantLong "PropertyDocumentsModel" 140 2 ∈ bw := bw_in 801 (by decide +kernel) (by decide +kernel)
theorem w_802 : Cond.methodLink "PropertyDocumentsModel" 146 yM_nth ∈ bw := bw_in 802 (by decide +kernel) (by decide +kernel)
theorem w_804 : Cond.instanceMethod yM_nth ∈ bw := bw_in 804 (by decide +kernel) (by decide +kernel)
theorem w_805 : Cond.code yM_nth prog_9_method_6_code 6 (some .int) ∈ bw := bw_in 805 (by decide +kernel) (by decide +kernel)
theorem w_806 : Cond.methodLink "PropertyDocumentsModel" 149 yM_end ∈ bw := bw_in 806 (by decide +kernel) (by decide +kernel)
theorem w_808 : Cond.instanceMethod yM_end ∈ bw := bw_in 808 (by decide +kernel) (by decide +kernel)
theorem w_809 : Cond.code yM_end prog_9_method_23_code 3 none ∈ bw := bw_in 809 (by decide +kernel) (by decide +kernel)
theorem w_810 : Cond.methodLink "PropertyDocumentsModel" 152 yM_element ∈ bw := bw_in 810 (by decide +kernel) (by decide +kernel)
theorem w_812 : Cond.instanceMethod yM_element ∈ bw := bw_in 812 (by decide +kernel) (by decide +kernel)
theorem w_813 : Cond.code yM_element prog_9_method_24_code 6 none ∈ bw := bw_in 813 (by decide +kernel) (by decide +kernel)
theorem w_814 : Cond.methodLink "PropertyDocumentsLaw" 74 yM_sound ∈ bw := bw_in 814 (by decide +kernel) (by decide +kernel)
theorem w_815 : Cond.instanceMethod yM_sound ∈ bw := bw_in 815 (by decide +kernel) (by decide +kernel)
theorem w_816 : Cond.selects "PropertyDocumentsModel" yM_sound yM_sound ∈ bw := bw_in 816 (by decide +kernel) (by decide +kernel)
theorem w_817 : Cond.code yM_sound prog_9_method_33_code 1 (some .boolean) ∈ bw := bw_in 817 (by decide +kernel) (by decide +kernel)
theorem w_818 : Cond.methodLink "PropertyDocumentsModel" 193 yM_read ∈ bw := bw_in 818 (by decide +kernel) (by decide +kernel)
theorem w_820 : Cond.instanceMethod yM_read ∈ bw := bw_in 820 (by decide +kernel) (by decide +kernel)
theorem w_821 : Cond.code yM_read prog_9_method_32_code 2 (some .boolean) ∈ bw := bw_in 821 (by decide +kernel) (by decide +kernel)
theorem w_822 : Cond.methodLink "PropertyDocumentsModel" 187 yM_readDocument ∈ bw := bw_in 822 (by decide +kernel) (by decide +kernel)
theorem w_824 : Cond.instanceMethod yM_readDocument ∈ bw := bw_in 824 (by decide +kernel) (by decide +kernel)
theorem w_825 : Cond.code yM_readDocument prog_9_method_30_code 1 none ∈ bw := bw_in 825 (by decide +kernel) (by decide +kernel)
theorem w_826 : Cond.methodLink "PropertyDocumentsModel" 174 yM_skip ∈ bw := bw_in 826 (by decide +kernel) (by decide +kernel)
theorem w_828 : Cond.instanceMethod yM_skip ∈ bw := bw_in 828 (by decide +kernel) (by decide +kernel)
theorem w_829 : Cond.code yM_skip prog_9_method_28_code 3 none ∈ bw := bw_in 829 (by decide +kernel) (by decide +kernel)
theorem w_830 : Cond.methodLink "PropertyDocumentsModel" 164 yM_next ∈ bw := bw_in 830 (by decide +kernel) (by decide +kernel)
theorem w_832 : Cond.instanceMethod yM_next ∈ bw := bw_in 832 (by decide +kernel) (by decide +kernel)
theorem w_833 : Cond.code yM_next prog_9_method_26_code 1 (some .int) ∈ bw := bw_in 833 (by decide +kernel) (by decide +kernel)
theorem w_834 : Cond.methodLink "PropertyDocumentsModel" 190 yM_readElement ∈ bw := bw_in 834 (by decide +kernel) (by decide +kernel)
theorem w_836 : Cond.instanceMethod yM_readElement ∈ bw := bw_in 836 (by decide +kernel) (by decide +kernel)
theorem w_837 : Cond.code yM_readElement prog_9_method_31_code 4 none ∈ bw := bw_in 837 (by decide +kernel) (by decide +kernel)
theorem w_838 : Cond.methodLink "PropertyDocumentsModel" 180 yM_line ∈ bw := bw_in 838 (by decide +kernel) (by decide +kernel)
theorem w_840 : Cond.instanceMethod yM_line ∈ bw := bw_in 840 (by decide +kernel) (by decide +kernel)
theorem w_841 : Cond.code yM_line prog_9_method_29_code 3 (some .int) ∈ bw := bw_in 841 (by decide +kernel) (by decide +kernel)
theorem w_842 : Cond.methodLink "PropertyDocumentsModel" 183 yM_number ∈ bw := bw_in 842 (by decide +kernel) (by decide +kernel)
theorem w_844 : Cond.instanceMethod yM_number ∈ bw := bw_in 844 (by decide +kernel) (by decide +kernel)
theorem w_845 : Cond.code yM_number prog_9_method_27_code 2 (some .int) ∈ bw := bw_in 845 (by decide +kernel) (by decide +kernel)
theorem w_846 : Cond.methodLink "PropertyDocumentsLaw" 78 yM_depth ∈ bw := bw_in 846 (by decide +kernel) (by decide +kernel)
theorem w_847 : Cond.instanceMethod yM_depth ∈ bw := bw_in 847 (by decide +kernel) (by decide +kernel)
theorem w_848 : Cond.selects "PropertyDocumentsModel" yM_depth yM_depth ∈ bw := bw_in 848 (by decide +kernel) (by decide +kernel)
theorem w_849 : Cond.code yM_depth prog_9_method_34_code 3 (some .int) ∈ bw := bw_in 849 (by decide +kernel) (by decide +kernel)
theorem w_850 : Cond.methodLink "PropertyDocumentsLaw" 82 yM_elements ∈ bw := bw_in 850 (by decide +kernel) (by decide +kernel)
theorem w_851 : Cond.instanceMethod yM_elements ∈ bw := bw_in 851 (by decide +kernel) (by decide +kernel)
theorem w_852 : Cond.selects "PropertyDocumentsModel" yM_elements yM_elements ∈ bw := bw_in 852 (by decide +kernel) (by decide +kernel)
theorem w_853 : Cond.code yM_elements prog_9_method_35_code 1 (some .int) ∈ bw := bw_in 853 (by decide +kernel) (by decide +kernel)
theorem w_854 : Cond.methodLink "PropertyDocumentsLaw" 69 yM_decode ∈ bw := bw_in 854 (by decide +kernel) (by decide +kernel)
theorem w_855 : Cond.instanceMethod yM_decode ∈ bw := bw_in 855 (by decide +kernel) (by decide +kernel)
theorem w_856 : Cond.selects "PropertyDocumentsModel" yM_decode yM_decode ∈ bw := bw_in 856 (by decide +kernel) (by decide +kernel)
theorem w_857 : Cond.code yM_decode prog_9_method_43_code 4 (some .int) ∈ bw := bw_in 857 (by decide +kernel) (by decide +kernel)
theorem w_858 : Cond.methodLink "PropertyDocumentsModel" 215 yM_fits ∈ bw := bw_in 858 (by decide +kernel) (by decide +kernel)
theorem w_860 : Cond.instanceMethod yM_fits ∈ bw := bw_in 860 (by decide +kernel) (by decide +kernel)
theorem w_861 : Cond.code yM_fits prog_9_method_40_code 5 (some .boolean) ∈ bw := bw_in 861 (by decide +kernel) (by decide +kernel)
theorem w_862 : Cond.methodLink "PropertyDocumentsModel" 200 yM_mean ∈ bw := bw_in 862 (by decide +kernel) (by decide +kernel)
theorem w_864 : Cond.instanceMethod yM_mean ∈ bw := bw_in 864 (by decide +kernel) (by decide +kernel)
theorem w_865 : Cond.code yM_mean prog_9_method_37_code 5 (some .boolean) ∈ bw := bw_in 865 (by decide +kernel) (by decide +kernel)
theorem w_866 : Cond.methodLink "PropertyDocumentsModel" 197 yM_isMark ∈ bw := bw_in 866 (by decide +kernel) (by decide +kernel)
theorem w_868 : Cond.instanceMethod yM_isMark ∈ bw := bw_in 868 (by decide +kernel) (by decide +kernel)
theorem w_869 : Cond.code yM_isMark prog_9_method_36_code 2 (some .boolean) ∈ bw := bw_in 869 (by decide +kernel) (by decide +kernel)
theorem w_870 : Cond.methodLink "PropertyDocumentsModel" 203 yM_about ∈ bw := bw_in 870 (by decide +kernel) (by decide +kernel)
theorem w_872 : Cond.instanceMethod yM_about ∈ bw := bw_in 872 (by decide +kernel) (by decide +kernel)
theorem w_873 : Cond.code yM_about prog_9_method_38_code 2 (some .int) ∈ bw := bw_in 873 (by decide +kernel) (by decide +kernel)
theorem w_874 : Cond.methodLink "PropertyDocumentsModel" 206 yM_typeFits ∈ bw := bw_in 874 (by decide +kernel) (by decide +kernel)
theorem w_875 : Cond.static yM_typeFits ∈ bw := bw_in 875 (by decide +kernel) (by decide +kernel)
theorem w_876 : Cond.code yM_typeFits prog_9_method_39_code 2 (some .boolean) ∈ bw := bw_in 876 (by decide +kernel) (by decide +kernel)
theorem w_877 : Cond.methodLink "PropertyDocumentsModel" 218 yM_take ∈ bw := bw_in 877 (by decide +kernel) (by decide +kernel)
theorem w_879 : Cond.instanceMethod yM_take ∈ bw := bw_in 879 (by decide +kernel) (by decide +kernel)
theorem w_880 : Cond.code yM_take prog_9_method_42_code 5 none ∈ bw := bw_in 880 (by decide +kernel) (by decide +kernel)
theorem w_881 : Cond.methodLink "PropertyDocumentsModel" 211 yM_long64 ∈ bw := bw_in 881 (by decide +kernel) (by decide +kernel)
theorem w_883 : Cond.instanceMethod yM_long64 ∈ bw := bw_in 883 (by decide +kernel) (by decide +kernel)
theorem w_884 : Cond.code yM_long64 prog_9_method_41_code 2 (some .long) ∈ bw := bw_in 884 (by decide +kernel) (by decide +kernel)
theorem w_885 : Cond.constantLong "PropertyDocumentsModel" 209 4294967295 ∈ bw := bw_in 885 (by decide +kernel) (by decide +kernel)
theorem w_886 : Cond.methodLink "PropertyDocumentsLaw" 86 yM_size ∈ bw := bw_in 886 (by decide +kernel) (by decide +kernel)
theorem w_887 : Cond.instanceMethod yM_size ∈ bw := bw_in 887 (by decide +kernel) (by decide +kernel)
theorem w_888 : Cond.selects "PropertyDocumentsModel" yM_size yM_size ∈ bw := bw_in 888 (by decide +kernel) (by decide +kernel)
theorem w_889 : Cond.code yM_size prog_9_method_44_code 1 (some .int) ∈ bw := bw_in 889 (by decide +kernel) (by decide +kernel)
theorem w_890 : Cond.methodLink "PropertyDocumentsLaw" 90 yM_byteAt ∈ bw := bw_in 890 (by decide +kernel) (by decide +kernel)
theorem w_891 : Cond.instanceMethod yM_byteAt ∈ bw := bw_in 891 (by decide +kernel) (by decide +kernel)
theorem w_892 : Cond.selects "PropertyDocumentsModel" yM_byteAt yM_byteAt ∈ bw := bw_in 892 (by decide +kernel) (by decide +kernel)
theorem w_893 : Cond.code yM_byteAt prog_9_method_45_code 2 (some .int) ∈ bw := bw_in 893 (by decide +kernel) (by decide +kernel)
theorem w_894 : Cond.methodLink "PropertyDocumentsLaw" 95 yM_poke ∈ bw := bw_in 894 (by decide +kernel) (by decide +kernel)
theorem w_895 : Cond.instanceMethod yM_poke ∈ bw := bw_in 895 (by decide +kernel) (by decide +kernel)
theorem w_896 : Cond.selects "PropertyDocumentsModel" yM_poke yM_poke ∈ bw := bw_in 896 (by decide +kernel) (by decide +kernel)
theorem w_897 : Cond.code yM_poke prog_9_method_46_code 3 (some .boolean) ∈ bw := bw_in 897 (by decide +kernel) (by decide +kernel)
theorem w_898 : Cond.methodLink "PropertyDocumentsLaw" 100 yM_cut ∈ bw := bw_in 898 (by decide +kernel) (by decide +kernel)
theorem w_899 : Cond.instanceMethod yM_cut ∈ bw := bw_in 899 (by decide +kernel) (by decide +kernel)
theorem w_900 : Cond.selects "PropertyDocumentsModel" yM_cut yM_cut ∈ bw := bw_in 900 (by decide +kernel) (by decide +kernel)
theorem w_901 : Cond.code yM_cut prog_9_method_47_code 2 (some .boolean) ∈ bw := bw_in 901 (by decide +kernel) (by decide +kernel)
theorem w_902 : Cond.constantLong "PropertyDocumentsLaw" 27 4294967295 ∈ bw := bw_in 902 (by decide +kernel) (by decide +kernel)
/-- the words on nest mates, which go from state to state by rules of their own -/
def nw : List Cond := [Cond.methodLinkNest "PropertyDocuments" 9 yD_init "PropertyDocuments", Cond.methodLinkNest "PropertyDocuments" 18 yI_init "PropertyDocuments", Cond.fieldLinkNest "PropertyDocuments" 57 "PropertyDocuments$Instances" "count" "I" "PropertyDocuments", Cond.fieldLinkNest "PropertyDocuments$Fitting" 99 "PropertyDocuments$Instances" "count" "I" "PropertyDocuments", Cond.methodLinkNest "PropertyDocuments" 25 yB_init "PropertyDocuments", Cond.fieldLinkNest "PropertyDocuments$Writer" 26 "PropertyDocuments$Bytes" "count" "I" "PropertyDocuments", Cond.fieldLinkNest "PropertyDocuments$Outline" 45 "PropertyDocuments$Bytes" "count" "I" "PropertyDocuments", Cond.fieldLinkNest "PropertyDocuments" 121 "PropertyDocuments$Bytes" "count" "I" "PropertyDocuments", Cond.methodLinkNest "PropertyDocuments$Writer" 21 yB_init "PropertyDocuments", Cond.fieldLinkNest "PropertyDocuments" 115 "PropertyDocuments$Writer" "draft" "LPropertyDocuments$Bytes;" "PropertyDocuments", Cond.fieldLinkNest "PropertyDocuments$Fitting" 44 "PropertyDocuments$Outline" "elementCount" "I" "PropertyDocuments", Cond.fieldLinkNest "PropertyDocuments" 139 "PropertyDocuments$Outline" "elementCount" "I" "PropertyDocuments", Cond.fieldLinkNest "PropertyDocuments$Fitting" 32 "PropertyDocuments$Outline" "documentCount" "I" "PropertyDocuments", Cond.fieldLinkNest "PropertyDocuments" 129 "PropertyDocuments$Outline" "documentCount" "I" "PropertyDocuments", Cond.fieldLinkNest "PropertyDocuments" 136 "PropertyDocuments$Outline" "deepest" "I" "PropertyDocuments"]
theorem n_0 : Cond.methodLinkNest "PropertyDocuments" 9 yD_init "PropertyDocuments" ∈ nw := List.mem_of_getElem? (i := 0) (by decide +kernel)
theorem n_0_t : Cond.methodLinkNest "PropertyDocuments" 9 yD_init "PropertyDocuments" ∈ lw_tbl := List.mem_of_getElem? (i := 72) (by decide +kernel)
theorem n_1 : Cond.methodLinkNest "PropertyDocuments" 18 yI_init "PropertyDocuments" ∈ nw := List.mem_of_getElem? (i := 1) (by decide +kernel)
theorem n_1_t : Cond.methodLinkNest "PropertyDocuments" 18 yI_init "PropertyDocuments" ∈ lw_tbl := List.mem_of_getElem? (i := 101) (by decide +kernel)
theorem n_2 : Cond.fieldLinkNest "PropertyDocuments" 57 "PropertyDocuments$Instances" "count" "I" "PropertyDocuments" ∈ nw := List.mem_of_getElem? (i := 2) (by decide +kernel)
theorem n_2_t : Cond.fieldLinkNest "PropertyDocuments" 57 "PropertyDocuments$Instances" "count" "I" "PropertyDocuments" ∈ lw_tbl := List.mem_of_getElem? (i := 109) (by decide +kernel)
theorem n_3 : Cond.fieldLinkNest "PropertyDocuments$Fitting" 99 "PropertyDocuments$Instances" "count" "I" "PropertyDocuments" ∈ nw := List.mem_of_getElem? (i := 3) (by decide +kernel)
theorem n_3_t : Cond.fieldLinkNest "PropertyDocuments$Fitting" 99 "PropertyDocuments$Instances" "count" "I" "PropertyDocuments" ∈ lw_tbl := List.mem_of_getElem? (i := 110) (by decide +kernel)
theorem n_4 : Cond.methodLinkNest "PropertyDocuments" 25 yB_init "PropertyDocuments" ∈ nw := List.mem_of_getElem? (i := 4) (by decide +kernel)
theorem n_4_t : Cond.methodLinkNest "PropertyDocuments" 25 yB_init "PropertyDocuments" ∈ lw_tbl := List.mem_of_getElem? (i := 123) (by decide +kernel)
theorem n_5 : Cond.fieldLinkNest "PropertyDocuments$Writer" 26 "PropertyDocuments$Bytes" "count" "I" "PropertyDocuments" ∈ nw := List.mem_of_getElem? (i := 5) (by decide +kernel)
theorem n_5_t : Cond.fieldLinkNest "PropertyDocuments$Writer" 26 "PropertyDocuments$Bytes" "count" "I" "PropertyDocuments" ∈ lw_tbl := List.mem_of_getElem? (i := 129) (by decide +kernel)
theorem n_6 : Cond.fieldLinkNest "PropertyDocuments$Outline" 45 "PropertyDocuments$Bytes" "count" "I" "PropertyDocuments" ∈ nw := List.mem_of_getElem? (i := 6) (by decide +kernel)
theorem n_6_t : Cond.fieldLinkNest "PropertyDocuments$Outline" 45 "PropertyDocuments$Bytes" "count" "I" "PropertyDocuments" ∈ lw_tbl := List.mem_of_getElem? (i := 130) (by decide +kernel)
theorem n_7 : Cond.fieldLinkNest "PropertyDocuments" 121 "PropertyDocuments$Bytes" "count" "I" "PropertyDocuments" ∈ nw := List.mem_of_getElem? (i := 7) (by decide +kernel)
theorem n_7_t : Cond.fieldLinkNest "PropertyDocuments" 121 "PropertyDocuments$Bytes" "count" "I" "PropertyDocuments" ∈ lw_tbl := List.mem_of_getElem? (i := 131) (by decide +kernel)
theorem n_8 : Cond.methodLinkNest "PropertyDocuments$Writer" 21 yB_init "PropertyDocuments" ∈ nw := List.mem_of_getElem? (i := 8) (by decide +kernel)
theorem n_8_t : Cond.methodLinkNest "PropertyDocuments$Writer" 21 yB_init "PropertyDocuments" ∈ lw_tbl := List.mem_of_getElem? (i := 144) (by decide +kernel)
theorem n_9 : Cond.fieldLinkNest "PropertyDocuments" 115 "PropertyDocuments$Writer" "draft" "LPropertyDocuments$Bytes;" "PropertyDocuments" ∈ nw := List.mem_of_getElem? (i := 9) (by decide +kernel)
theorem n_9_t : Cond.fieldLinkNest "PropertyDocuments" 115 "PropertyDocuments$Writer" "draft" "LPropertyDocuments$Bytes;" "PropertyDocuments" ∈ lw_tbl := List.mem_of_getElem? (i := 148) (by decide +kernel)
theorem n_10 : Cond.fieldLinkNest "PropertyDocuments$Fitting" 44 "PropertyDocuments$Outline" "elementCount" "I" "PropertyDocuments" ∈ nw := List.mem_of_getElem? (i := 10) (by decide +kernel)
theorem n_10_t : Cond.fieldLinkNest "PropertyDocuments$Fitting" 44 "PropertyDocuments$Outline" "elementCount" "I" "PropertyDocuments" ∈ lw_tbl := List.mem_of_getElem? (i := 169) (by decide +kernel)
theorem n_11 : Cond.fieldLinkNest "PropertyDocuments" 139 "PropertyDocuments$Outline" "elementCount" "I" "PropertyDocuments" ∈ nw := List.mem_of_getElem? (i := 11) (by decide +kernel)
theorem n_11_t : Cond.fieldLinkNest "PropertyDocuments" 139 "PropertyDocuments$Outline" "elementCount" "I" "PropertyDocuments" ∈ lw_tbl := List.mem_of_getElem? (i := 170) (by decide +kernel)
theorem n_12 : Cond.fieldLinkNest "PropertyDocuments$Fitting" 32 "PropertyDocuments$Outline" "documentCount" "I" "PropertyDocuments" ∈ nw := List.mem_of_getElem? (i := 12) (by decide +kernel)
theorem n_12_t : Cond.fieldLinkNest "PropertyDocuments$Fitting" 32 "PropertyDocuments$Outline" "documentCount" "I" "PropertyDocuments" ∈ lw_tbl := List.mem_of_getElem? (i := 172) (by decide +kernel)
theorem n_13 : Cond.fieldLinkNest "PropertyDocuments" 129 "PropertyDocuments$Outline" "documentCount" "I" "PropertyDocuments" ∈ nw := List.mem_of_getElem? (i := 13) (by decide +kernel)
theorem n_13_t : Cond.fieldLinkNest "PropertyDocuments" 129 "PropertyDocuments$Outline" "documentCount" "I" "PropertyDocuments" ∈ lw_tbl := List.mem_of_getElem? (i := 173) (by decide +kernel)
theorem n_14 : Cond.fieldLinkNest "PropertyDocuments" 136 "PropertyDocuments$Outline" "deepest" "I" "PropertyDocuments" ∈ nw := List.mem_of_getElem? (i := 14) (by decide +kernel)
theorem n_14_t : Cond.fieldLinkNest "PropertyDocuments" 136 "PropertyDocuments$Outline" "deepest" "I" "PropertyDocuments" ∈ lw_tbl := List.mem_of_getElem? (i := 175) (by decide +kernel)
end
section
/-! base (mine): the words' rules, two kinds of contract (Pu: reads only; Mu: writes cells of its world, makes none), calls by them -/
theorem bw_g {c : Cond} (h : c ∈ bw) : GoodIn bw (c :: bw) := fun w hw =>
  have h2 : w ∈ bw := (List.mem_cons.mp hw).elim (fun e => by rw [e]; exact h) id
  ⟨h2, good_of_word (List.mem_filter.mp h2).2⟩
def isNest : Cond → Bool
  | .fieldLinkNest _ _ _ _ _ _ => true
  | .methodLinkNest _ _ _ _ => true
  | _ => false
theorem nw_nest : nw.all isNest = true := by decide +kernel
theorem nw_tab : nw.all (fun w => w.onTables) = true := by decide +kernel
def kw (U : State) : Prop := ∀ w ∈ nw, va_Nw w U
theorem kw_warm {s U : State} (hW : s.WarmedH U.vm) (h : kw s) : kw U := by
  intro w hw
  have h1 := h w hw
  have h2 := List.all_eq_true.mp nw_nest w hw
  cases w <;> first | exact va_Nw.warmF hW h1 | exact va_Nw.warmM hW h1 | (simp [isNest] at h2)
theorem kw_call {U : State} {g : JFrame} {mk : MethodId} {a : Array Value} (h : kw U) : kw (U.calling g mk a) := fun w hw => va_Nw.same (u := U) (U := U.calling g mk a) (List.all_eq_true.mp nw_tab w hw) rfl (h w hw)
/-- a truth value as the machine has it -/
def bI (b : Bool) : Int32 := if b then 1 else 0
theorem bI_t : bI true = 1 := rfl
theorem bI_f : bI false = 0 := rfl
theorem bI_0 {b : Bool} : bI b = 0 ↔ b = false := by cases b <;> decide
theorem bI_n0 {b : Bool} : ¬ bI b = 0 ↔ b = true := by cases b <;> decide
theorem bI_nar (b : Bool) : narrow .boolean (.int (bI b)) = .int (bI b) := by cases b <;> decide +kernel
/-- the functions' side: loops by fuel, bounds, rows that open a function's answer -/
def lp {α β : Type} (step : (α → Option β) → α → Option β) : Nat → α → Option β
  | 0, _ => none
  | k + 1, a => step (lp step k) a
theorem lp_some {α β : Type} {step : (α → Option β) → α → Option β} {r : β} {G : α → Prop} (hs : ∀ rc : α → Option β, (∀ a, rc a = some r → G a) → ∀ a, step rc a = some r → G a) : ∀ (k : Nat) (a : α), lp step k a = some r → G a
  | 0, _, h => by cases h
  | k + 1, a, h => hs (lp step k) (fun a h => lp_some hs k a h) a h
def ok (i : Int32) (n : Nat) : Bool := decide (0 ≤ i.toInt ∧ i.toInt < n)
def ln (i : Int32) (n : Nat) : Bool := decide (0 ≤ i.toInt ∧ i.toInt ≤ n)
theorem g_t {β : Type} {c : Prop} {i : Decidable c} {a b r : Option β} (h : @ite _ c i a b = r) (hc : c) : a = r := by rw [← h, if_pos hc]
theorem g_f {β : Type} {c : Prop} {i : Decidable c} {a b r : Option β} (h : @ite _ c i a b = r) (hc : ¬ c) : b = r := by rw [← h, if_neg hc]
theorem g_ok {β : Type} {x : Int32} {n : Nat} {i : Decidable (ok x n = true)} {a : Option β} {r : β} (h : @ite _ (ok x n = true) i a none = some r) : vp_in x n ∧ a = some r := by
  by_cases hc : ok x n = true
  · exact ⟨vp_in_iff.mpr (of_decide_eq_true hc), g_t h hc⟩
  · exact absurd (g_f h hc) (by simp)
theorem g_len {β : Type} {x : Int32} {n : Nat} {i : Decidable (ln x n = true)} {a : Option β} {r : β} (h : @ite _ (ln x n = true) i a none = some r) : (¬ x < 0 ∧ x.toNatClampNeg ≤ n) ∧ a = some r := by
  by_cases hc : ln x n = true
  · obtain ⟨h1, h2⟩ := of_decide_eq_true hc
    refine ⟨⟨fun q => ?_, ?_⟩, g_t h hc⟩
    · rw [Int32.lt_iff_toInt_lt] at q
      have e : (0 : Int32).toInt = 0 := by decide
      omega
    · show x.toInt.toNat ≤ n
      omega
  · exact absurd (g_f h hc) (by simp)
theorem g_bind {α β : Type} {x : Option α} {k : α → Option β} {r : β} (h : x.bind k = some r) : ∃ a, x = some a ∧ k a = some r := by
  cases x with
  | none => cases h
  | some a => exact ⟨a, rfl, h⟩
/-- the room of a level: forty words of locals for each frame -/
def rL (n : Nat) : Room := { frames := n, cells := 0, slots := 0, locals := 40 * n }
abbrev tys (cI cJ : ClassId) : List (ClassId × FieldType) := [(cI, .int), (cJ, .long)]
def B0 (D : va_G) (cI cJ : ClassId) (ws : va_W) (U : State) : Prop := va_P D cs ws U.heap ∧ va_K D cs (tys cI cJ) U ∧ kw U
def Pu (l : Launch) (y : MethodName) (cy : ByteArray) (n : Nat) (ret : Option FieldType) (rm : Room) (av : List Value) (D : va_G) (cI cJ : ClassId) (ws : va_W) (v : Value) : Prop :=
  Met l y (Cond.code y cy n ret :: bw) rm (va_Pc av (B0 D cI cJ ws)) (fun _ st oc t => oc = .returned (some v) ∧ t.heap = st.heap) 0 0 (fun _ => False)
def Mu (l : Launch) (y : MethodName) (cy : ByteArray) (n : Nat) (ret : Option FieldType) (rm : Room) (av : List Value) (D : va_G) (cI cJ : ClassId) (ws : va_W) (v : Option Value) (ws' : va_W) : Prop :=
  ∀ sz : Nat, Met l y (Cond.code y cy n ret :: bw) rm (va_Pc av (fun U => U.heap.size = sz ∧ B0 D cI cJ ws U ∧ va_D (fun _ => True) ws)) (fun _ st oc t => (oc = .returned v ∧ va_P D cs ws' t.heap) ∧ va_F (va_A ws sz) st t) 0 0 (va_A ws sz)
/-- what a call's words are: link, instance method, selects, initialised, code; and the number of its arguments -/
def Cw (own : String) (idx : Nat) (y : MethodName) (cy : ByteArray) (n : Nat) (ret : Option FieldType) (k : Nat) : Prop :=
  Cond.methodLink own idx y ∈ bw ∧ Cond.instanceMethod y ∈ bw ∧ Cond.selects y.cls y y ∈ bw ∧ Cond.initialized y.cls ∈ bw ∧ Cond.code y cy n ret ∈ bw ∧ y.cls ≠ "java/lang/invoke/MethodHandle" ∧ y.cls ≠ "java/lang/invoke/VarHandle" ∧ (parseMethodDescriptor y.desc).map (fun d => d.parameters.length) = some k
/-- the words of a static call -/
def Cs (own : String) (idx : Nat) (y : MethodName) (cy : ByteArray) (n : Nat) (ret : Option FieldType) (k : Nat) : Prop :=
  Cond.methodLink own idx y ∈ bw ∧ Cond.static y ∈ bw ∧ Cond.initialized y.cls ∈ bw ∧ Cond.code y cy n ret ∈ bw ∧ y.cls ≠ "java/lang/invoke/MethodHandle" ∧ y.cls ≠ "java/lang/invoke/VarHandle" ∧ (parseMethodDescriptor y.desc).map (fun d => d.parameters.length) = some k
/-- cells of a world put in at places -/
def mset : va_W → List Nat → va_W → va_W
  | ws, i :: is, c :: l => mset (ws.set i c) is l
  | ws, _, _ => ws
theorem mset_sp : ∀ (is : List Nat) (w1 ws : va_W), is.length = w1.length → ∀ (k : Nat) (q : Nat × va_E), (mset ws is w1)[k]? = some q → (∃ j : Nat, is[j]? = some k ∧ w1[j]? = some q) ∨ (k ∉ is ∧ ws[k]? = some q)
  | [], w1, ws, _, k, q, h => Or.inr ⟨List.not_mem_nil, by cases w1 <;> exact h⟩
  | i :: is, [], ws, hl, k, q, h => by simp at hl
  | i :: is, c :: w1, ws, hl, k, q, h => by
    rcases mset_sp is w1 (ws.set i c) (by simpa using hl) k q h with ⟨j, h1, h2⟩ | ⟨h1, h2⟩
    · exact Or.inl ⟨j + 1, by simpa using h1, by simpa using h2⟩
    · by_cases hk : k = i
      · subst hk
        have hlt : k < ws.length := by
          have := (List.getElem?_eq_some_iff.mp h2).1
          simpa using this
        rw [List.getElem?_set_self hlt] at h2
        exact Or.inl ⟨0, rfl, h2⟩
      · rw [List.getElem?_set_ne (Ne.symm hk)] at h2
        exact Or.inr ⟨by simp [hk, h1], h2⟩
theorem map_at {is : List Nat} {ws w : va_W} (hs : is.map (fun i => ws[i]?) = w.map some) (k : Nat) (q : Nat × va_E) (hq : w[k]? = some q) : ∃ i : Nat, is[k]? = some i ∧ ws[i]? = some q := by
  have h1 : (is.map (fun i => ws[i]?))[k]? = some (some q) := by rw [hs, List.getElem?_map, hq]; rfl
  rw [List.getElem?_map] at h1
  cases hi : is[k]? with
  | none => rw [hi] at h1; cases h1
  | some i => rw [hi] at h1; exact ⟨i, rfl, Option.some.inj h1⟩
theorem map_at' {is : List Nat} {ws w : va_W} (hs : is.map (fun i => ws[i]?) = w.map some) (k i : Nat) (hi : is[k]? = some i) : ∃ q, w[k]? = some q ∧ ws[i]? = some q := by
  have h1 : (is.map (fun i => ws[i]?))[k]? = some (ws[i]?) := by rw [List.getElem?_map, hi]; rfl
  rw [hs, List.getElem?_map] at h1
  cases hq : w[k]? with
  | none => rw [hq] at h1; cases h1
  | some q => rw [hq] at h1; exact ⟨q, rfl, (Option.some.inj h1).symm⟩
/-- behind a call that wrote: the callee's cells at their places, the rest as it was -/
theorem mset_in {A : Nat → Prop} {D : va_G} {cl : List vw_C} {ws wc w1 : va_W} {H H1 : Heap} (hP : va_P D cl ws H) (hD : va_D A ws) (is : List Nat) (hs : is.map (fun i => ws[i]?) = wc.map some) (ha : w1.map (fun q => q.1) = wc.map (fun q => q.1))
    (hk : ∀ q : Nat, q < H.size → ¬ va_A wc H.size q → H1[q]? = H[q]?) (hP1 : va_P D cl w1 H1) : va_P D cl (mset ws is w1) H1 ∧ va_D A (mset ws is w1) := by
  have hl : is.length = w1.length := by
    have e1 := congrArg List.length hs
    have e2 := congrArg List.length ha
    simp only [List.length_map] at e1 e2
    omega
  have adr : ∀ (k : Nat) (q : Nat × va_E), (mset ws is w1)[k]? = some q → ∃ q0, ws[k]? = some q0 ∧ q0.1 = q.1 := by
    intro k q h
    rcases mset_sp is w1 ws hl k q h with ⟨j, h1, h2⟩ | ⟨-, h2⟩
    · obtain ⟨q0, h3, h4⟩ := map_at' hs j k h1
      have e1 : (w1.map (fun q => q.1))[j]? = some q.1 := by rw [List.getElem?_map, h2]; rfl
      rw [ha, List.getElem?_map, h3] at e1
      exact ⟨q0, h4, Option.some.inj e1⟩
    · exact ⟨q, h2, rfl⟩
  refine ⟨fun k q h => ?_, fun i j x y hx hy hxy => ?_, fun k q h => ?_⟩
  · rcases mset_sp is w1 ws hl k q h with ⟨j, -, h2⟩ | ⟨h1, h2⟩
    · exact hP1 j q h2
    · have hlt := (hP k q h2).lt
      refine (hP k q h2).kept (hk q.1 hlt (fun h => ?_))
      rcases h with ⟨k2, e, h⟩ | h
      · obtain ⟨i, h3, h4⟩ := map_at hs k2 (q.1, e) h
        have e2 := hD.1 k i q (q.1, e) h2 h4 rfl
        subst e2
        exact h1 (List.mem_of_getElem? h3)
      · omega
  · obtain ⟨x0, h1, h2⟩ := adr i x hx
    obtain ⟨y0, h3, h4⟩ := adr j y hy
    exact hD.1 i j x0 y0 h1 h3 (h2.trans (hxy.trans h4.symm))
  · obtain ⟨q0, h1, h2⟩ := adr k q h
    rw [← h2]
    exact hD.2 k q0 h1
section BASE
variable {p : Program} {l : Launch} {e : Env} {R : Room} {s : State} {m : MethodId} {args : Array Value} {below : List Frame} {meth : Method} {c : Code} {H : Heap} {locs : List Loc} {cells slots : Nat} {Q : State → Prop}
variable {cc : ByteArray} {pc nL : Nat} {ls : Array Slot} {rest : List Value} {own : String} {D : va_G} {cI cJ : ClassId} {ws : va_W} {A : Nat → Prop} {H0 : Heap}
/-- a branch on a truth value -/
theorem b_ifeq (hx : p.tables.exec = Jvm.exec) (hb : c.code = cc) {b : Bool} {off : Int} {tgt : Nat} (hdg : decode cc pc = .ok (.ifCond .eq off, 3)) (ht : (pc : Int) + off = (tgt : Int))
    (kt : ¬ b = true → W p l e R s m args below meth c H locs cells slots Q (F0 m tgt ls rest)) (kf : b = true → W p l e R s m args below meth c H locs cells slots Q (F0 m (pc + 3) ls rest)) : W p l e R s m args below meth c H locs cells slots Q (F0 m pc ls (.int (bI b) :: rest)) :=
  lv_if_eq hx hb hdg ht (fun h => kt (fun q => by rw [bI_0.mp h] at q; cases q)) (fun h => kf (bI_n0.mp h))
theorem b_ifne (hx : p.tables.exec = Jvm.exec) (hb : c.code = cc) {b : Bool} {off : Int} {tgt : Nat} (hdg : decode cc pc = .ok (.ifCond .ne off, 3)) (ht : (pc : Int) + off = (tgt : Int))
    (kt : b = true → W p l e R s m args below meth c H locs cells slots Q (F0 m tgt ls rest)) (kf : ¬ b = true → W p l e R s m args below meth c H locs cells slots Q (F0 m (pc + 3) ls rest)) : W p l e R s m args below meth c H locs cells slots Q (F0 m pc ls (.int (bI b) :: rest)) :=
  lv_if_ne hx hb hdg ht (fun h => kt (bI_n0.mp h)) (fun h => kf (fun q => by rw [bI_0.mp h] at q; cases q))
/-- a switch's default, in the table or outside -/
theorem lv_tableD (hx : p.tables.exec = Jvm.exec) (hb : c.code = cc) {dflt lo hi : Int} {offs : Array Int} {len : Nat} {x : Int32} {tgt : Nat} (hdg : decode cc pc = .ok (.tableswitch dflt lo hi offs, len)) (h : ¬ x.toInt < lo → ¬ hi < x.toInt → offs[(x.toInt - lo).toNat]? = some dflt) (ht : (pc : Int) + dflt = (tgt : Int))
    (k : W p l e R s m args below meth c H locs cells slots Q (F0 m tgt ls rest)) : W p l e R s m args below meth c H locs cells slots Q (F0 m pc ls (.int x :: rest)) := by
  by_cases h1 : x.toInt < lo
  · exact lv_tableOut hx hb hdg (Or.inl h1) ht k
  · by_cases h2 : hi < x.toInt
    · exact lv_tableOut hx hb hdg (Or.inr h2) ht k
    · exact lv_tableIn hx hb hdg h1 h2 (h h1 h2) ht k
/-- Math.max -/
theorem mx (S : CallFix p m c cc nL s args bw own) {index : Nat} (h1 : Cond.methodLink own index Lib.Math.max.name ∈ bw) (h2 : Cond.static Lib.Math.max.name ∈ bw) (h3 : Cond.initialized "java/lang/Math" ∈ bw) (h4 : Cond.code Lib.Math.max.name Lib.Math.max.code 2 (some .int) ∈ bw) (hl : ls.size = nL) (hf : 1 ≤ R.frames) (hlo : (rest.map fun v => v.category).sum + 13 ≤ R.locals) {x y : Int32} (hdg : decode cc pc = .ok (.invokestatic index, 3))
    (kk : W p l e R s m args below meth c H locs 0 0 Q (F0 m (pc + 3) ls (.int (if x < y then y else x) :: rest))) : W p l e R s m args below meth c H locs 0 0 Q (F0 m pc ls (.int y :: .int x :: rest)) :=
  va_mmax S.1 S.2.1 (S.2.2.1.trans hl.symm) S.2.2.2.1 (S.2.2.2.2 _ h1) (S.2.2.2.2 _ h2) (S.2.2.2.2 _ h3) (S.2.2.2.2 _ h4) hf hlo (Nat.zero_le _) (Nat.zero_le _) hdg kk
/-- System.arraycopy of the first n of one row to the first n of another -/
theorem cpi (S : CallFix p m c cc nL s args bw own) {index : Nat} (h1 : Cond.methodLink own index arraycopyName ∈ bw) (h2 : Cond.native arraycopyName ∈ bw) (h3 : Cond.static arraycopyName ∈ bw) (h4 : Cond.initialized "java/lang/System" ∈ bw) (hl : ls.size = nL) (hK : va_K D cs (tys cI cJ) s) (hP : va_P D cs ws H) (hD : va_D A ws) (hS : va_S A H0 H locs) (q0 q1 : Nat) {a0 a : Nat} {f g : Nat → Int32} (ha0 : ws[q0]? = some (a0, .inl (cI, 120, .inl f))) (ha1 : ws[q1]? = some (a, .inl (cI, 120, .inl g)))
    {n : Int32} (hn : ¬ n < 0 ∧ n.toNatClampNeg ≤ 120) (hf : 1 ≤ R.frames) (hlo : (rest.map fun v => v.category).sum + (nativeFrameWords "java/lang/System" "arraycopy" 5 + 11) ≤ R.locals) (hdg : decode cc pc = .ok (.invokestatic index, 3))
    (kk : ∀ (H1 : Heap) (locs1 : List Loc), va_P D cs (ws.set q1 (a, .inl (cI, 120, .inl (va_cpy f g 0 0 n.toNatClampNeg)))) H1 → va_D A (ws.set q1 (a, .inl (cI, 120, .inl (va_cpy f g 0 0 n.toNatClampNeg)))) → va_S A H0 H1 locs1 → W p l e R s m args below meth c H1 locs1 0 0 Q (F0 m (pc + 3) ls rest)) : W p l e R s m args below meth c H locs 0 0 Q (F0 m pc ls (.int n :: .int 0 :: .ref a :: .int 0 :: .ref a0 :: rest)) :=
  va_copyi (sp := 0) (dp := 0) S.1 S.2.1 (S.2.2.1.trans hl.symm) S.2.2.2.1 (S.2.2.2.2 _ h1) (S.2.2.2.2 _ h2) (S.2.2.2.2 _ h3) (S.2.2.2.2 _ h4) hK hP hD hS q0 q1 0 0 ha0 ha1 rfl rfl rfl (by decide) (by decide) hn.1 (by rw [show (0 : Int32).toNatClampNeg = 0 from by decide, Nat.zero_add]; exact hn.2) (by rw [show (0 : Int32).toNatClampNeg = 0 from by decide, Nat.zero_add]; exact hn.2) (fun _ _ => rfl) hf hlo hdg (by rw [show (0 : Int32).toNatClampNeg = 0 from by decide]; exact kk)
/-- a field, of the class's own -/
theorem gf (S : CallFix p m c cc nL s args bw own) (hK : va_K D cs (tys cI cJ) s) (hP : va_P D cs ws H) (q0 ci k : Nat) {a idx N : Nat} {C : String} {T : u_T} {fs : List Value} {v : Value} (hin : ∀ w ∈ u_ws C T N, w ∈ bw) (hl : Cond.fieldLink own idx (T k).1 (T k).2.1 (T k).2.2.1 ∈ bw)
    (he : ws[q0]? = some (a, .inr (ci, fs))) (hc : cs[ci]? = some (C, T, N)) (hk : k < N) (hv : fs[k]? = some v) (hdg : decode cc pc = .ok (.getfield idx, 3))
    (kk : W p l e R s m args below meth c H locs cells slots Q (F0 m (pc + 3) ls (v :: rest))) : W p l e R s m args below meth c H locs cells slots Q (F0 m pc ls (.ref a :: rest)) :=
  va_get S.1 S.2.1 S.2.2.2.2 hin S.2.2.2.1 hK hP q0 he hc k hk (S.2.2.2.2 _ hl) (fun _ h => h) hv hdg kk
/-- a nest mate's field -/
theorem gfN (S : CallFix p m c cc nL s args bw own) (hN : kw s) (hK : va_K D cs (tys cI cJ) s) (hP : va_P D cs ws H) (q0 ci k : Nat) {a idx N : Nat} {C host : String} {T : u_T} {fs : List Value} {v : Value} (hin : ∀ w ∈ u_ws C T N, w ∈ bw) (hl : Cond.fieldLinkNest own idx (T k).1 (T k).2.1 (T k).2.2.1 host ∈ nw)
    (he : ws[q0]? = some (a, .inr (ci, fs))) (hc : cs[ci]? = some (C, T, N)) (hk : k < N) (hv : fs[k]? = some v) (hdg : decode cc pc = .ok (.getfield idx, 3))
    (kk : W p l e R s m args below meth c H locs cells slots Q (F0 m (pc + 3) ls (v :: rest))) : W p l e R s m args below meth c H locs cells slots Q (F0 m pc ls (.ref a :: rest)) :=
  va_getN S.1 S.2.1 S.2.2.2.2 hin S.2.2.2.1 hK hP q0 he hc k hk (va_Nw.use rfl (hN _ hl)) (fun _ h => h) hv hdg kk
theorem pf (S : CallFix p m c cc nL s args bw own) (hK : va_K D cs (tys cI cJ) s) (hP : va_P D cs ws H) (hD : va_D A ws) (hS : va_S A H0 H locs) (q0 ci k : Nat) {a idx N : Nat} {C : String} {T : u_T} {fs : List Value} {v : Value} {ty : FieldType} (t0 : Nat → FieldType) (hin : ∀ w ∈ u_ws C T N, w ∈ bw)
    (hty : ∀ k, k < N → parseFieldDescriptor (T k).2.2.1 = some (t0 k)) (hnm : ∀ a, a < N → ∀ b, b < N → a ≠ b → (T a).2.1 ≠ (T b).2.1) (hl : Cond.fieldLink own idx (T k).1 (T k).2.1 (T k).2.2.1 ∈ bw)
    (he : ws[q0]? = some (a, .inr (ci, fs))) (hc : cs[ci]? = some (C, T, N)) (hk : k < N) (hfin : (T k).2.2.2 = false) (hd : t0 k = ty) (hn : narrow ty v = v) (hfit : fits ty v = true) (hl2 : k < fs.length) (hdg : decode cc pc = .ok (.putfield idx, 3))
    (kk : ∀ (H1 : Heap) (locs1 : List Loc), va_P D cs (ws.set q0 (a, .inr (ci, fs.set k v))) H1 → va_D A (ws.set q0 (a, .inr (ci, fs.set k v))) → va_S A H0 H1 locs1 → W p l e R s m args below meth c H1 locs1 cells slots Q (F0 m (pc + 3) ls rest)) : W p l e R s m args below meth c H locs cells slots Q (F0 m pc ls (v :: .ref a :: rest)) :=
  va_put S.1 S.2.1 S.2.2.2.2 hin t0 hty hnm S.2.2.2.1 hK hP hD hS q0 he hc k hk (S.2.2.2.2 _ hl) (fun _ h => h) hfin (by rw [hty k hk, hd]) hn hfit hl2 hdg kk
theorem pfN (S : CallFix p m c cc nL s args bw own) (hN : kw s) (hK : va_K D cs (tys cI cJ) s) (hP : va_P D cs ws H) (hD : va_D A ws) (hS : va_S A H0 H locs) (q0 ci k : Nat) {a idx N : Nat} {C host : String} {T : u_T} {fs : List Value} {v : Value} {ty : FieldType} (t0 : Nat → FieldType) (hin : ∀ w ∈ u_ws C T N, w ∈ bw)
    (hty : ∀ k, k < N → parseFieldDescriptor (T k).2.2.1 = some (t0 k)) (hnm : ∀ a, a < N → ∀ b, b < N → a ≠ b → (T a).2.1 ≠ (T b).2.1) (hl : Cond.fieldLinkNest own idx (T k).1 (T k).2.1 (T k).2.2.1 host ∈ nw)
    (he : ws[q0]? = some (a, .inr (ci, fs))) (hc : cs[ci]? = some (C, T, N)) (hk : k < N) (hfin : (T k).2.2.2 = false) (hd : t0 k = ty) (hn : narrow ty v = v) (hfit : fits ty v = true) (hl2 : k < fs.length) (hdg : decode cc pc = .ok (.putfield idx, 3))
    (kk : ∀ (H1 : Heap) (locs1 : List Loc), va_P D cs (ws.set q0 (a, .inr (ci, fs.set k v))) H1 → va_D A (ws.set q0 (a, .inr (ci, fs.set k v))) → va_S A H0 H1 locs1 → W p l e R s m args below meth c H1 locs1 cells slots Q (F0 m (pc + 3) ls rest)) : W p l e R s m args below meth c H locs cells slots Q (F0 m pc ls (v :: .ref a :: rest)) :=
  va_putN S.1 S.2.1 S.2.2.2.2 hin t0 hty hnm S.2.2.2.1 hK hP hD hS q0 he hc k hk (va_Nw.use rfl (hN _ hl)) (fun _ h => h) hfin (by rw [hty k hk, hd]) hn hfit hl2 hdg kk
/-- the words of a virtual call -/
theorem cw_of {idx n k : Nat} {y : MethodName} {cy : ByteArray} {ret : Option FieldType} {rm : Room} (S : CallFix p m c cc nL s args bw own) (hw : Cw own idx y cy n ret k) (hrm : rm.cells = 0 ∧ rm.slots = 0) (hR : rm.frames + 1 ≤ R.frames ∧ 8 + (n + 11) + rm.locals ≤ R.locals) : CallW R s args own y.cls idx y cy n ret (Cond.code y cy n ret :: bw) rm 0 0 k := by
  obtain ⟨h1, h2, h3, h4, h5, h6⟩ := hw
  exact ⟨callB_of k S.2.2.2.2 (bw_g h5) rfl hrm.1 hrm.2 (S.2.2.2.2 _ h4) (S.2.2.2.2 _ h1) h6 hR, S.2.2.2.2 _ h2, S.2.2.2.2 _ h3⟩
/-- a call of a method that only reads -/
theorem pu_v (S : CallFix p m c cc nL s args bw own) (hN : kw s) (hK : va_K D cs (tys cI cJ) s) (hP : va_P D cs ws H) {idx n k b : Nat} {y : MethodName} {cy : ByteArray} {ret : Option FieldType} {rm : Room} {As : List Value} {wc : va_W} {v : Value}
    (hM : Pu l y cy n ret rm (.ref b :: As) D cI cJ wc v) (hw : Cw own idx y cy n ret k) (is : List Nat) (hs : is.filterMap (fun i => ws[i]?) = wc) (ci : Nat) {T : u_T} {N : Nat} {fs : List Value} (he : wc[0]? = some (b, .inr (ci, fs))) (hc : cs[ci]? = some (y.cls, T, N))
    (hrm : rm.cells = 0 ∧ rm.slots = 0) (hR : rm.frames + 1 ≤ R.frames ∧ 8 + (n + 11) + rm.locals ≤ R.locals) (hk : As.length = k) (hsz : ls.size = nL) (hst : (rest.map fun v => v.category).sum ≤ 8) (hf : cells ≤ R.cells ∧ slots ≤ R.slots) (hdg : decode cc pc = .ok (.invokevirtual idx, 3)) {st0 : List Value} (hst0 : st0 = As.reverse ++ .ref b :: rest)
    (kk : W p l e R s m args below meth c H locs cells slots Q (F0 m (pc + 3) ls (v :: rest))) : W p l e R s m args below meth c H locs cells slots Q (F0 m pc ls st0) := by
  have hPc := hP.sub is hs
  have hp : PreV s H y.cls b (va_Pc (.ref b :: As) (B0 D cI cJ wc)) As := ⟨fun a U g mk q => ⟨q.1, q.2.1, va_K.moved (u := U) (U := U.calling g mk a) (Vm.Alike.refl U.vm) q.2.2.1, kw_call q.2.2.2⟩, va_recv hK hPc hc he, fun U hU hW => ⟨rfl, by rw [hU]; exact hPc, va_K.moved hW.alike hK, kw_warm hW hN⟩⟩
  have hr := W.runV (g := F0 m pc ls st0) (rest := rest) (e := e) (below := below) (meth := meth) (locs := locs) (cells := cells) (slots := slots) S hM (cw_of S hw hrm hR) hp rfl hk hsz hst0 (lv_room hst) hdg hf
  intro T0 hT X
  obtain ⟨v', st₀, t, T', L, h0, X', hL, e1, ⟨hv, hh⟩, st⟩ := hr T0 hT X
  cases hv
  obtain ⟨t2, a1, b1⟩ := kk T' (by rw [e1, hh, h0]) (Stand.forget X' (fun q h => (hL q h).elim))
  exact ⟨t2, st t2 a1, b1⟩
/-- a static call of a method that only reads -/
theorem pu_s (S : CallFix p m c cc nL s args bw own) (hN : kw s) (hK : va_K D cs (tys cI cJ) s) (hP : va_P D cs ws H) {idx n k : Nat} {y : MethodName} {cy : ByteArray} {ret : Option FieldType} {rm : Room} {As : List Value} {wc : va_W} {v : Value}
    (hM : Pu l y cy n ret rm As D cI cJ wc v) (hw : Cs own idx y cy n ret k) (is : List Nat) (hs : is.filterMap (fun i => ws[i]?) = wc)
    (hrm : rm.cells = 0 ∧ rm.slots = 0) (hR : rm.frames + 1 ≤ R.frames ∧ 8 + (n + 11) + rm.locals ≤ R.locals) (hk : As.length = k) (hsz : ls.size = nL) (hst : (rest.map fun v => v.category).sum ≤ 8) (hf : cells ≤ R.cells ∧ slots ≤ R.slots) (hdg : decode cc pc = .ok (.invokestatic idx, 3)) {st0 : List Value} (hst0 : st0 = As.reverse ++ rest)
    (kk : W p l e R s m args below meth c H locs cells slots Q (F0 m (pc + 3) ls (v :: rest))) : W p l e R s m args below meth c H locs cells slots Q (F0 m pc ls st0) := by
  obtain ⟨h1, h2, h4, h5, h6⟩ := hw
  have hPc := hP.sub is hs
  have hp : PreS s H (va_Pc As (B0 D cI cJ wc)) As := ⟨fun a U g mk q => ⟨q.1, q.2.1, va_K.moved (u := U) (U := U.calling g mk a) (Vm.Alike.refl U.vm) q.2.2.1, kw_call q.2.2.2⟩, fun U hU hW => ⟨rfl, by rw [hU]; exact hPc, va_K.moved hW.alike hK, kw_warm hW hN⟩⟩
  have hr := va_runS (g := F0 m pc ls st0) (rest := rest) (e := e) (below := below) (meth := meth) (locs := locs) (cells := cells) (slots := slots) S hM ⟨callB_of k S.2.2.2.2 (bw_g h5) rfl hrm.1 hrm.2 (S.2.2.2.2 _ h4) (S.2.2.2.2 _ h1) h6 hR, S.2.2.2.2 _ h2⟩ hp rfl hk hsz hst0 (lv_room hst) hdg hf
  intro T0 hT X
  obtain ⟨v', st₀, t, T', L, h0, X', hL, e1, e2, ⟨hv, hh⟩, st⟩ := hr T0 hT X
  cases hv
  obtain ⟨t2, a1, b1⟩ := kk T' (by rw [e1, hh, h0]) (Stand.forget X' (fun q h => (hL q h).elim))
  exact ⟨t2, st t2 a1, b1⟩
/-- a call of a method that writes cells of its world -/
theorem mu_v (S : CallFix p m c cc nL s args bw own) (hN : kw s) (hK : va_K D cs (tys cI cJ) s) (hP : va_P D cs ws H) (hD : va_D A ws) (hS : va_S A H0 H locs) (hA : ∀ q, H0.size ≤ q → A q) {idx n k b : Nat} {y : MethodName} {cy : ByteArray} {ret : Option FieldType} {rm : Room} {As : List Value} {wc w1 : va_W} {v : Option Value}
    (hM : Mu l y cy n ret rm (.ref b :: As) D cI cJ wc v w1) (hw : Cw own idx y cy n ret k) (is : List Nat) (hnd : va_nd is = true) (hs : is.map (fun i => ws[i]?) = wc.map some) (ha : w1.map (fun q => q.1) = wc.map (fun q => q.1)) (ci : Nat) {T : u_T} {N : Nat} {fs : List Value} (he : wc[0]? = some (b, .inr (ci, fs))) (hc : cs[ci]? = some (y.cls, T, N))
    (hrm : rm.cells = 0 ∧ rm.slots = 0) (hR : rm.frames + 1 ≤ R.frames ∧ 8 + (n + 11) + rm.locals ≤ R.locals) (hk : As.length = k) (hsz : ls.size = nL) (hst : (rest.map fun v => v.category).sum ≤ 8) (hf : cells ≤ R.cells ∧ slots ≤ R.slots) (hdg : decode cc pc = .ok (.invokevirtual idx, 3)) {st0 : List Value} (hst0 : st0 = As.reverse ++ .ref b :: rest)
    (kk : ∀ (H1 : Heap) (locs1 : List Loc), va_P D cs (mset ws is w1) H1 → va_D A (mset ws is w1) → va_S A H0 H1 locs1 → W p l e R s m args below meth c H1 locs1 cells slots Q (F0 m (pc + 3) ls (v.toList ++ rest))) : W p l e R s m args below meth c H locs cells slots Q (F0 m pc ls st0) := by
  have hPc : va_P D cs wc H := fun k q hq => by
    obtain ⟨i, -, h2⟩ := map_at hs k q hq
    exact hP i q h2
  have hDc : va_D A wc := hD.sub is hnd hs
  have hF := va_free hD hS hA is hs
  have hp : PreV s H y.cls b (va_Pc (.ref b :: As) (fun U => U.heap.size = H.size ∧ B0 D cI cJ wc U ∧ va_D (fun _ => True) wc)) As := ⟨fun a U g mk q => ⟨q.1, q.2.1, ⟨q.2.2.1.1, va_K.moved (u := U) (U := U.calling g mk a) (Vm.Alike.refl U.vm) q.2.2.1.2.1, kw_call q.2.2.1.2.2⟩, q.2.2.2⟩, va_recv hK hPc hc he, fun U hU hW => ⟨rfl, by rw [hU], ⟨by rw [hU]; exact hPc, va_K.moved hW.alike hK, kw_warm hW hN⟩, hDc.weaken (fun _ _ _ _ => trivial)⟩⟩
  have hr := W.runV (g := F0 m pc ls st0) (rest := rest) (e := e) (below := below) (meth := meth) (locs := locs) (cells := cells) (slots := slots) S (hM H.size) (cw_of S hw hrm hR) hp rfl hk hsz hst0 (lv_room hst) hdg hf
  intro T0 hT X
  obtain ⟨v', st₀, t, T', L, h0, X', hL, e1, ⟨⟨hv, hP1⟩, hz, hk1⟩, st⟩ := hr T0 hT X
  cases hv
  rw [h0] at hz hk1
  obtain ⟨hP2, hD2⟩ := mset_in (H1 := t.heap) hP hD is hs ha hk1 hP1
  obtain ⟨t2, a1, b1⟩ := kk t.heap (locs ++ L) hP2 hD2 ⟨Nat.le_trans hS.1 hz, fun q h1 h2 => by rw [hk1 q (Nat.lt_of_lt_of_le h1 hS.1) (fun z => h2 (hF q z))]; exact hS.2.1 q h1 h2, fun q hq => by
      rcases List.mem_append.mp hq with h | h
      · exact hS.2.2 q h
      · exact hF _ (hL q h)⟩ T' e1 X'
  exact ⟨t2, st t2 a1, b1⟩
/-- the ends of a method that only reads -/
theorem pu_i {v w : Int32} (S : CallFix p m c cc nL s args bw own) (hr : meth.sig.returnType = some .int) (hlocks : meth.locks = false) (hdg : decode cc pc = .ok (.ireturn, 1)) (hv : v = w) : W p l e R s m args below meth c s.heap [] 0 0 (MQ below (fun _ st oc t => oc = .returned (some (.int w)) ∧ t.heap = st.heap) args s 0 0 (fun _ => False)) (F0 m pc ls [.int v]) := by
  subst hv
  exact W.iret S.1 S.2.1 hr (fun t ht _ => ⟨rfl, ht⟩) (fun _ h => by cases h) hdg hlocks
theorem pu_z {v : Int32} {b : Bool} (S : CallFix p m c cc nL s args bw own) (hr : meth.sig.returnType = some .boolean) (hlocks : meth.locks = false) (hdg : decode cc pc = .ok (.ireturn, 1)) (hv : v = bI b) : W p l e R s m args below meth c s.heap [] 0 0 (MQ below (fun _ st oc t => oc = .returned (some (.int (bI b))) ∧ t.heap = st.heap) args s 0 0 (fun _ => False)) (F0 m pc ls [.int v]) := by
  subst hv
  exact W.zret S.1 S.2.1 hr (bI_nar b) (fun t ht _ => ⟨rfl, ht⟩) (fun _ h => by cases h) hdg hlocks
theorem pu_l {v w : Int64} (S : CallFix p m c cc nL s args bw own) (hr : meth.sig.returnType = some .long) (hlocks : meth.locks = false) (hdg : decode cc pc = .ok (.lreturn, 1)) (hv : v = w) : W p l e R s m args below meth c s.heap [] 0 0 (MQ below (fun _ st oc t => oc = .returned (some (.long w)) ∧ t.heap = st.heap) args s 0 0 (fun _ => False)) (F0 m pc ls [.long v]) := by
  subst hv
  exact W.lret S.1 S.2.1 hr (fun t ht _ => ⟨rfl, ht⟩) (fun _ h => by cases h) hdg hlocks
/-- the ends of a method that writes -/
theorem mu_i {v w : Int32} {wE w1 : va_W} (S : CallFix p m c cc nL s args bw own) (hr : meth.sig.returnType = some .int) (hlocks : meth.locks = false) (hP : va_P D cs wE H) (hS : va_S A s.heap H locs) (hdg : decode cc pc = .ok (.ireturn, 1)) (hv : v = w) (hw : wE = w1) : W p l e R s m args below meth c H locs 0 0 (MQ below (fun _ st oc t => (oc = .returned (some (.int w)) ∧ va_P D cs w1 t.heap) ∧ va_F A st t) args s 0 0 A) (F0 m pc ls [.int v]) := by
  subst hv; subst hw
  exact W.iret S.1 S.2.1 hr (fun t ht _ => ⟨⟨rfl, by rw [ht]; exact hP⟩, hS.F ht⟩) hS.2.2 hdg hlocks
theorem mu_z {v : Int32} {b : Bool} {wE w1 : va_W} (S : CallFix p m c cc nL s args bw own) (hr : meth.sig.returnType = some .boolean) (hlocks : meth.locks = false) (hP : va_P D cs wE H) (hS : va_S A s.heap H locs) (hdg : decode cc pc = .ok (.ireturn, 1)) (hv : v = bI b) (hw : wE = w1) : W p l e R s m args below meth c H locs 0 0 (MQ below (fun _ st oc t => (oc = .returned (some (.int (bI b))) ∧ va_P D cs w1 t.heap) ∧ va_F A st t) args s 0 0 A) (F0 m pc ls [.int v]) := by
  subst hv; subst hw
  exact W.zret S.1 S.2.1 hr (bI_nar b) (fun t ht _ => ⟨⟨rfl, by rw [ht]; exact hP⟩, hS.F ht⟩) hS.2.2 hdg hlocks
theorem mu_n {wE w1 : va_W} (S : CallFix p m c cc nL s args bw own) (hr : meth.sig.returnType = none) (hlocks : meth.locks = false) (hP : va_P D cs wE H) (hS : va_S A s.heap H locs) (hdg : decode cc pc = .ok (.return_, 1)) (hw : wE = w1) : W p l e R s m args below meth c H locs 0 0 (MQ below (fun _ st oc t => (oc = .returned none ∧ va_P D cs w1 t.heap) ∧ va_F A st t) args s 0 0 A) (F0 m pc ls []) := by
  subst hw
  exact W.vret S.1 S.2.1 hr (fun t ht _ => ⟨⟨rfl, by rw [ht]; exact hP⟩, hS.F ht⟩) hS.2.2 hdg hlocks
end BASE
/-- a contract of a method that only reads, out of its walk -/
theorem pu_of {l : Launch} {y : MethodName} {cy : ByteArray} {n k : Nat} {ret : Option FieldType} {av : List Value} {D : va_G} {cI cJ : ClassId} {ws : va_W} {v : Value} (hy : plainName y.cls = true) (hn : (lg_sl av).length ≤ n)
    (body : ∀ (p : Program) (e : Env) (s : State) (m : MethodId) (below : List Frame) (meth : Method) (c : Code) (ls : Array Slot), CallFix p m c cy n s av.toArray bw y.cls → meth.sig.returnType = ret → meth.locks = false → kw s → va_K D cs (tys cI cJ) s → va_P D cs ws s.heap → lv_has ls n (lv_args 0 av) →
      W p l e (rL k) s m av.toArray below meth c s.heap [] 0 0 (MQ below (fun _ st oc t => oc = .returned (some v) ∧ t.heap = st.heap) av.toArray s 0 0 (fun _ => False)) (F0 m 0 ls [])) : Pu l y cy n ret (rL k) av D cI cJ ws v := by
  refine Met.ofW (cc := cy) (maxL := n) (ret := ret) hy rfl ?_
  intro p e s m args below meth c s₁ B hml hv
  obtain ⟨rfl, hP, hK, hN⟩ := hv
  have hts := atoms_spec (ws := Cond.code y cy n ret :: bw) B.pre
  have hown : s.vm.findClass y.cls = some m.cls := findClass_of_methodNamed B.named
  have hl := lv_entry av (n := n) hn
  rw [lg_entry_eq]
  exact body p e s m below meth c _ ⟨B.exec, B.bytes, hml, hown, fun w h => hts w (List.mem_cons_of_mem _ h)⟩ B.returns B.notSynchronized hN hK hP hl
/-- a contract of a method that writes, out of its walk -/
theorem mu_of {l : Launch} {y : MethodName} {cy : ByteArray} {n k : Nat} {ret : Option FieldType} {av : List Value} {D : va_G} {cI cJ : ClassId} {ws w1 : va_W} {v : Option Value} (hy : plainName y.cls = true) (hn : (lg_sl av).length ≤ n)
    (body : ∀ (p : Program) (e : Env) (s : State) (m : MethodId) (below : List Frame) (meth : Method) (c : Code) (ls : Array Slot) (A : Nat → Prop), CallFix p m c cy n s av.toArray bw y.cls → meth.sig.returnType = ret → meth.locks = false → kw s → va_K D cs (tys cI cJ) s → va_P D cs ws s.heap → va_D A ws → (∀ q, s.heap.size ≤ q → A q) → lv_has ls n (lv_args 0 av) →
      W p l e (rL k) s m av.toArray below meth c s.heap [] 0 0 (MQ below (fun _ st oc t => (oc = .returned v ∧ va_P D cs w1 t.heap) ∧ va_F A st t) av.toArray s 0 0 A) (F0 m 0 ls [])) : Mu l y cy n ret (rL k) av D cI cJ ws v w1 := by
  intro sz
  refine Met.ofW (cc := cy) (maxL := n) (ret := ret) hy rfl ?_
  intro p e s m args below meth c s₁ B hml hv
  obtain ⟨rfl, rfl, ⟨hP, hK, hN⟩, hD⟩ := hv
  have hts := atoms_spec (ws := Cond.code y cy n ret :: bw) B.pre
  have hown : s.vm.findClass y.cls = some m.cls := findClass_of_methodNamed B.named
  have hl := lv_entry av (n := n) hn
  rw [lg_entry_eq]
  exact body p e s m below meth c _ (va_A ws s.heap.size) ⟨B.exec, B.bytes, hml, hown, fun w h => hts w (List.mem_cons_of_mem _ h)⟩ B.returns B.notSynchronized hN hK hP hD.self (fun q h => Or.inr h) hl
end
section
/-! words of the calls and of the fields: laid by wip/gen/parts.py -/
theorem u_zB : ∀ w ∈ u_ws zB zB_T 2, w ∈ bw := by
  intro w hw
  obtain ⟨k, hk, rfl⟩ := List.mem_map.mp hw
  have hk := List.mem_range.mp hk
  rcases (show k = 0 ∨ k = 1 by omega) with rfl | rfl
  · exact w_132
  · exact w_134
theorem u_zD : ∀ w ∈ u_ws zD zD_T 7, w ∈ bw := by
  intro w hw
  obtain ⟨k, hk, rfl⟩ := List.mem_map.mp hw
  have hk := List.mem_range.mp hk
  rcases (show k = 0 ∨ k = 1 ∨ k = 2 ∨ k = 3 ∨ k = 4 ∨ k = 5 ∨ k = 6 by omega) with rfl | rfl | rfl | rfl | rfl | rfl | rfl
  · exact w_83
  · exact w_85
  · exact w_87
  · exact w_89
  · exact w_91
  · exact w_93
  · exact w_95
theorem u_zF : ∀ w ∈ u_ws zF zF_T 5, w ∈ bw := by
  intro w hw
  obtain ⟨k, hk, rfl⟩ := List.mem_map.mp hw
  have hk := List.mem_range.mp hk
  rcases (show k = 0 ∨ k = 1 ∨ k = 2 ∨ k = 3 ∨ k = 4 by omega) with rfl | rfl | rfl | rfl | rfl
  · exact w_206
  · exact w_208
  · exact w_210
  · exact w_212
  · exact w_214
theorem u_zI : ∀ w ∈ u_ws zI zI_T 4, w ∈ bw := by
  intro w hw
  obtain ⟨k, hk, rfl⟩ := List.mem_map.mp hw
  have hk := List.mem_range.mp hk
  rcases (show k = 0 ∨ k = 1 ∨ k = 2 ∨ k = 3 by omega) with rfl | rfl | rfl | rfl
  · exact w_111
  · exact w_113
  · exact w_115
  · exact w_117
theorem u_zO : ∀ w ∈ u_ws zO zO_T 9, w ∈ bw := by
  intro w hw
  obtain ⟨k, hk, rfl⟩ := List.mem_map.mp hw
  have hk := List.mem_range.mp hk
  rcases (show k = 0 ∨ k = 1 ∨ k = 2 ∨ k = 3 ∨ k = 4 ∨ k = 5 ∨ k = 6 ∨ k = 7 ∨ k = 8 by omega) with rfl | rfl | rfl | rfl | rfl | rfl | rfl | rfl | rfl
  · exact w_176
  · exact w_178
  · exact w_180
  · exact w_182
  · exact w_184
  · exact w_186
  · exact w_188
  · exact w_190
  · exact w_192
theorem u_zW : ∀ w ∈ u_ws zW zW_T 3, w ∈ bw := by
  intro w hw
  obtain ⟨k, hk, rfl⟩ := List.mem_map.mp hw
  have hk := List.mem_range.mp hk
  rcases (show k = 0 ∨ k = 1 ∨ k = 2 by omega) with rfl | rfl | rfl
  · exact w_149
  · exact w_151
  · exact w_153
theorem u_zP : ∀ w ∈ u_ws zP zP_T 6, w ∈ bw := by
  intro w hw
  obtain ⟨k, hk, rfl⟩ := List.mem_map.mp hw
  have hk := List.mem_range.mp hk
  rcases (show k = 0 ∨ k = 1 ∨ k = 2 ∨ k = 3 ∨ k = 4 ∨ k = 5 by omega) with rfl | rfl | rfl | rfl | rfl | rfl
  · exact w_223
  · exact w_225
  · exact w_227
  · exact w_229
  · exact w_231
  · exact w_233
theorem u_zM : ∀ w ∈ u_ws zM zM_T 35, w ∈ bw := by
  intro w hw
  obtain ⟨k, hk, rfl⟩ := List.mem_map.mp hw
  have hk := List.mem_range.mp hk
  rcases (show k = 0 ∨ k = 1 ∨ k = 2 ∨ k = 3 ∨ k = 4 ∨ k = 5 ∨ k = 6 ∨ k = 7 ∨ k = 8 ∨ k = 9 ∨ k = 10 ∨ k = 11 ∨ k = 12 ∨ k = 13 ∨ k = 14 ∨ k = 15 ∨ k = 16 ∨ k = 17 ∨ k = 18 ∨ k = 19 ∨ k = 20 ∨ k = 21 ∨ k = 22 ∨ k = 23 ∨ k = 24 ∨ k = 25 ∨ k = 26 ∨ k = 27 ∨ k = 28 ∨ k = 29 ∨ k = 30 ∨ k = 31 ∨ k = 32 ∨ k = 33 ∨ k = 34 by omega) with rfl | rfl | rfl | rfl | rfl | rfl | rfl | rfl | rfl | rfl | rfl | rfl | rfl | rfl | rfl | rfl | rfl | rfl | rfl | rfl | rfl | rfl | rfl | rfl | rfl | rfl | rfl | rfl | rfl | rfl | rfl | rfl | rfl | rfl | rfl
  · exact w_642
  · exact w_644
  · exact w_646
  · exact w_648
  · exact w_650
  · exact w_652
  · exact w_654
  · exact w_656
  · exact w_658
  · exact w_660
  · exact w_662
  · exact w_664
  · exact w_666
  · exact w_668
  · exact w_670
  · exact w_672
  · exact w_674
  · exact w_676
  · exact w_678
  · exact w_680
  · exact w_682
  · exact w_684
  · exact w_686
  · exact w_688
  · exact w_690
  · exact w_692
  · exact w_694
  · exact w_696
  · exact w_698
  · exact w_700
  · exact w_702
  · exact w_704
  · exact w_706
  · exact w_708
  · exact w_710
theorem k_P_61 : Cw "PropertyDocuments" 61 yD_addClass bD_addClass 2 (some .int) 1 := ⟨w_240, w_241, w_242, w_53, w_243, by decide +kernel, by decide +kernel, by decide +kernel⟩
theorem k_P_65 : Cw "PropertyDocuments" 65 yD_addProperty bD_addProperty 5 (some .boolean) 4 := ⟨w_252, w_253, w_254, w_53, w_255, by decide +kernel, by decide +kernel, by decide +kernel⟩
theorem k_P_69 : Cw "PropertyDocuments" 69 yD_hasClass bD_hasClass 2 (some .boolean) 1 := ⟨w_268, w_245, w_246, w_53, w_247, by decide +kernel, by decide +kernel, by decide +kernel⟩
theorem k_P_73 : Cw "PropertyDocuments" 73 yI_add bI_add 4 (some .int) 1 := ⟨w_269, w_270, w_271, w_54, w_272, by decide +kernel, by decide +kernel, by decide +kernel⟩
theorem k_P_76 : Cw "PropertyDocuments" 76 yP_propertyOfObject bP_propertyOfObject 3 (some .int) 2 := ⟨w_297, w_299, w_3, w_52, w_300, by decide +kernel, by decide +kernel, by decide +kernel⟩
theorem k_P_80 : Cw "PropertyDocuments" 80 yD_allowsValue bD_allowsValue 4 (some .boolean) 2 := ⟨w_309, w_310, w_311, w_53, w_312, by decide +kernel, by decide +kernel, by decide +kernel⟩
theorem k_P_84 : Cw "PropertyDocuments" 84 yI_setValue bI_setValue 5 none 3 := ⟨w_321, w_274, w_275, w_54, w_276, by decide +kernel, by decide +kernel, by decide +kernel⟩
theorem k_P_88 : Cw "PropertyDocuments" 88 yD_isLink bD_isLink 2 (some .boolean) 1 := ⟨w_326, w_327, w_328, w_53, w_329, by decide +kernel, by decide +kernel, by decide +kernel⟩
theorem k_P_91 : Cw "PropertyDocuments" 91 yI_kind bI_kind 2 (some .int) 1 := ⟨w_301, w_302, w_303, w_54, w_304, by decide +kernel, by decide +kernel, by decide +kernel⟩
theorem k_P_94 : Cw "PropertyDocuments" 94 yD_target bD_target 2 (some .int) 1 := ⟨w_330, w_331, w_332, w_53, w_333, by decide +kernel, by decide +kernel, by decide +kernel⟩
theorem k_P_97 : Cw "PropertyDocuments" 97 yD_isKindOf bD_isKindOf 5 (some .boolean) 2 := ⟨w_334, w_261, w_262, w_53, w_263, by decide +kernel, by decide +kernel, by decide +kernel⟩
theorem k_P_101 : Cw "PropertyDocuments" 101 yI_setPartner bI_setPartner 4 none 3 := ⟨w_335, w_290, w_291, w_54, w_292, by decide +kernel, by decide +kernel, by decide +kernel⟩
theorem k_P_105 : Cw "PropertyDocuments" 105 yI_valueAt bI_valueAt 3 (some .long) 2 := ⟨w_340, w_341, w_342, w_54, w_343, by decide +kernel, by decide +kernel, by decide +kernel⟩
theorem k_P_109 : Cw "PropertyDocuments" 109 yI_partnerAt bI_partnerAt 3 (some .int) 2 := ⟨w_348, w_349, w_350, w_54, w_351, by decide +kernel, by decide +kernel, by decide +kernel⟩
theorem k_P_112 : Cw "PropertyDocuments" 112 yW_write bW_write 3 (some .boolean) 2 := ⟨w_368, w_369, w_370, w_56, w_371, by decide +kernel, by decide +kernel, by decide +kernel⟩
theorem k_P_118 : Cw "PropertyDocuments" 118 yB_copyFrom bB_copyFrom 2 none 1 := ⟨w_432, w_433, w_434, w_55, w_435, by decide +kernel, by decide +kernel, by decide +kernel⟩
theorem k_P_122 : Cw "PropertyDocuments" 122 yO_read bO_read 1 (some .boolean) 0 := ⟨w_443, w_444, w_445, w_57, w_446, by decide +kernel, by decide +kernel, by decide +kernel⟩
theorem k_P_126 : Cw "PropertyDocuments" 126 yF_fits bF_fits 4 (some .boolean) 1 := ⟨w_483, w_484, w_485, w_58, w_486, by decide +kernel, by decide +kernel, by decide +kernel⟩
theorem k_P_132 : Cw "PropertyDocuments" 132 yF_fill bF_fill 4 (some .int) 1 := ⟨w_548, w_549, w_550, w_58, w_551, by decide +kernel, by decide +kernel, by decide +kernel⟩
theorem k_P_142 : Cw "PropertyDocuments" 142 yB_at bB_at 2 (some .int) 1 := ⟨w_590, w_459, w_460, w_55, w_461, by decide +kernel, by decide +kernel, by decide +kernel⟩
theorem k_P_145 : Cw "PropertyDocuments" 145 yB_add bB_add 2 (some .boolean) 1 := ⟨w_595, w_386, w_387, w_55, w_388, by decide +kernel, by decide +kernel, by decide +kernel⟩
theorem k_P_147 : Cw "PropertyDocuments" 147 yB_replace bB_replace 3 (some .boolean) 2 := ⟨w_596, w_429, w_430, w_55, w_431, by decide +kernel, by decide +kernel, by decide +kernel⟩
theorem k_P_150 : Cw "PropertyDocuments" 150 yD_propertyOf bD_propertyOf 4 (some .int) 2 := ⟨w_305, w_306, w_307, w_53, w_308, by decide +kernel, by decide +kernel, by decide +kernel⟩
theorem k_B_19 : Cw "PropertyDocuments$Bytes" 19 yB_lowByte bB_lowByte 4 (some .int) 2 := ⟨w_381, w_383, w_5, w_55, w_384, by decide +kernel, by decide +kernel, by decide +kernel⟩
theorem k_B_23 : Cw "PropertyDocuments$Bytes" 23 yB_add bB_add 2 (some .boolean) 1 := ⟨w_385, w_386, w_387, w_55, w_388, by decide +kernel, by decide +kernel, by decide +kernel⟩
theorem k_B_27 : Cw "PropertyDocuments$Bytes" 27 yB_replace bB_replace 3 (some .boolean) 2 := ⟨w_428, w_429, w_430, w_55, w_431, by decide +kernel, by decide +kernel, by decide +kernel⟩
theorem k_B_31 : Cw "PropertyDocuments$Bytes" 31 yB_at bB_at 2 (some .int) 1 := ⟨w_482, w_459, w_460, w_55, w_461, by decide +kernel, by decide +kernel, by decide +kernel⟩
theorem k_B_35 : Cw "PropertyDocuments$Bytes" 35 yB_intAt bB_intAt 4 (some .int) 1 := ⟨w_566, w_479, w_480, w_55, w_481, by decide +kernel, by decide +kernel, by decide +kernel⟩
theorem k_D_34 : Cw "PropertyDocuments$Description" 34 yD_hasClass bD_hasClass 2 (some .boolean) 1 := ⟨w_244, w_245, w_246, w_53, w_247, by decide +kernel, by decide +kernel, by decide +kernel⟩
theorem k_D_38 : Cw "PropertyDocuments$Description" 38 yD_isTaken bD_isTaken 4 (some .boolean) 2 := ⟨w_256, w_258, w_0, w_53, w_259, by decide +kernel, by decide +kernel, by decide +kernel⟩
theorem k_D_42 : Cw "PropertyDocuments$Description" 42 yD_isKindOf bD_isKindOf 5 (some .boolean) 2 := ⟨w_260, w_261, w_262, w_53, w_263, by decide +kernel, by decide +kernel, by decide +kernel⟩
theorem k_D_45 : Cw "PropertyDocuments$Description" 45 yD_hasProperty bD_hasProperty 2 (some .boolean) 1 := ⟨w_317, w_318, w_319, w_53, w_320, by decide +kernel, by decide +kernel, by decide +kernel⟩
theorem k_D_48 : Cw "PropertyDocuments$Description" 48 yD_sort bD_sort 2 (some .int) 1 := ⟨w_313, w_314, w_315, w_53, w_316, by decide +kernel, by decide +kernel, by decide +kernel⟩
theorem k_F_36 : Cw "PropertyDocuments$Fitting" 36 yF_findMeant bF_findMeant 5 (some .int) 1 := ⟨w_487, w_489, w_16, w_58, w_490, by decide +kernel, by decide +kernel, by decide +kernel⟩
theorem k_F_40 : Cw "PropertyDocuments$Fitting" 40 yF_elementsFit bF_elementsFit 5 (some .boolean) 1 := ⟨w_522, w_524, w_20, w_58, w_525, by decide +kernel, by decide +kernel, by decide +kernel⟩
theorem k_F_47 : Cw "PropertyDocuments$Fitting" 47 yO_holder bO_holder 2 (some .int) 1 := ⟨w_491, w_492, w_493, w_57, w_494, by decide +kernel, by decide +kernel, by decide +kernel⟩
theorem k_F_50 : Cw "PropertyDocuments$Fitting" 50 yO_isMark bO_isMark 2 (some .boolean) 1 := ⟨w_499, w_500, w_501, w_57, w_502, by decide +kernel, by decide +kernel, by decide +kernel⟩
theorem k_F_53 : Cw "PropertyDocuments$Fitting" 53 yF_markedClass bF_markedClass 4 (some .int) 1 := ⟨w_507, w_509, w_19, w_58, w_510, by decide +kernel, by decide +kernel, by decide +kernel⟩
theorem k_F_56 : Cw "PropertyDocuments$Fitting" 56 yD_isKindOf bD_isKindOf 5 (some .boolean) 2 := ⟨w_521, w_261, w_262, w_53, w_263, by decide +kernel, by decide +kernel, by decide +kernel⟩
theorem k_F_62 : Cw "PropertyDocuments$Fitting" 62 yO_content bO_content 2 (some .int) 1 := ⟨w_511, w_512, w_513, w_57, w_514, by decide +kernel, by decide +kernel, by decide +kernel⟩
theorem k_F_65 : Cw "PropertyDocuments$Fitting" 65 yO_type bO_type 2 (some .int) 1 := ⟨w_515, w_516, w_517, w_57, w_518, by decide +kernel, by decide +kernel, by decide +kernel⟩
theorem k_F_68 : Cw "PropertyDocuments$Fitting" 68 yB_intAt bB_intAt 4 (some .int) 1 := ⟨w_519, w_479, w_480, w_55, w_481, by decide +kernel, by decide +kernel, by decide +kernel⟩
theorem k_F_73 : Cw "PropertyDocuments$Fitting" 73 yB_at bB_at 2 (some .int) 1 := ⟨w_520, w_459, w_460, w_55, w_461, by decide +kernel, by decide +kernel, by decide +kernel⟩
theorem k_F_76 : Cw "PropertyDocuments$Fitting" 76 yF_propertyFor bF_propertyFor 4 (some .int) 1 := ⟨w_526, w_528, w_21, w_58, w_529, by decide +kernel, by decide +kernel, by decide +kernel⟩
theorem k_F_79 : Cw "PropertyDocuments$Fitting" 79 yD_allowsType bD_allowsType 3 (some .boolean) 2 := ⟨w_535, w_536, w_537, w_53, w_538, by decide +kernel, by decide +kernel, by decide +kernel⟩
theorem k_F_82 : Cw "PropertyDocuments$Fitting" 82 yF_wantInside bF_wantInside 4 none 2 := ⟨w_539, w_541, w_22, w_58, w_542, by decide +kernel, by decide +kernel, by decide +kernel⟩
theorem k_F_86 : Cw "PropertyDocuments$Fitting" 86 yO_inner bO_inner 2 (some .int) 1 := ⟨w_543, w_544, w_545, w_57, w_546, by decide +kernel, by decide +kernel, by decide +kernel⟩
theorem k_F_89 : Cw "PropertyDocuments$Fitting" 89 yD_target bD_target 2 (some .int) 1 := ⟨w_547, w_331, w_332, w_53, w_333, by decide +kernel, by decide +kernel, by decide +kernel⟩
theorem k_F_92 : Cw "PropertyDocuments$Fitting" 92 yO_letter bO_letter 3 (some .int) 1 := ⟨w_530, w_531, w_532, w_57, w_533, by decide +kernel, by decide +kernel, by decide +kernel⟩
theorem k_F_95 : Cw "PropertyDocuments$Fitting" 95 yD_propertyOf bD_propertyOf 4 (some .int) 2 := ⟨w_534, w_306, w_307, w_53, w_308, by decide +kernel, by decide +kernel, by decide +kernel⟩
theorem k_F_104 : Cw "PropertyDocuments$Fitting" 104 yI_add bI_add 4 (some .int) 1 := ⟨w_552, w_270, w_271, w_54, w_272, by decide +kernel, by decide +kernel, by decide +kernel⟩
theorem k_F_107 : Cw "PropertyDocuments$Fitting" 107 yF_fillProperty bF_fillProperty 6 none 3 := ⟨w_553, w_555, w_23, w_58, w_556, by decide +kernel, by decide +kernel, by decide +kernel⟩
theorem k_F_111 : Cw "PropertyDocuments$Fitting" 111 yD_isLink bD_isLink 2 (some .boolean) 1 := ⟨w_557, w_327, w_328, w_53, w_329, by decide +kernel, by decide +kernel, by decide +kernel⟩
theorem k_F_114 : Cw "PropertyDocuments$Fitting" 114 yF_numberIn bF_numberIn 3 (some .long) 1 := ⟨w_558, w_560, w_24, w_58, w_561, by decide +kernel, by decide +kernel, by decide +kernel⟩
theorem k_F_118 : Cw "PropertyDocuments$Fitting" 118 yI_setValue bI_setValue 5 none 3 := ⟨w_568, w_274, w_275, w_54, w_276, by decide +kernel, by decide +kernel, by decide +kernel⟩
theorem k_F_122 : Cw "PropertyDocuments$Fitting" 122 yI_setPartner bI_setPartner 4 none 3 := ⟨w_569, w_290, w_291, w_54, w_292, by decide +kernel, by decide +kernel, by decide +kernel⟩
theorem k_F_126 : Cw "PropertyDocuments$Fitting" 126 yB_longAt bB_longAt 6 (some .long) 1 := ⟨w_562, w_563, w_564, w_55, w_565, by decide +kernel, by decide +kernel, by decide +kernel⟩
theorem k_I_26 : Cw "PropertyDocuments$Instances" 26 yI_has bI_has 2 (some .boolean) 1 := ⟨w_281, w_282, w_283, w_54, w_284, by decide +kernel, by decide +kernel, by decide +kernel⟩
theorem k_I_30 : Cw "PropertyDocuments$Instances" 30 yI_setValue bI_setValue 5 none 3 := ⟨w_273, w_274, w_275, w_54, w_276, by decide +kernel, by decide +kernel, by decide +kernel⟩
theorem k_I_34 : Cw "PropertyDocuments$Instances" 34 yI_setPartner bI_setPartner 4 none 3 := ⟨w_289, w_290, w_291, w_54, w_292, by decide +kernel, by decide +kernel, by decide +kernel⟩
theorem k_I_38 : Cw "PropertyDocuments$Instances" 38 yI_hasCell bI_hasCell 3 (some .boolean) 2 := ⟨w_277, w_279, w_1, w_54, w_280, by decide +kernel, by decide +kernel, by decide +kernel⟩
theorem k_I_42 : Cw "PropertyDocuments$Instances" 42 yI_cell bI_cell 3 (some .int) 2 := ⟨w_285, w_287, w_2, w_54, w_288, by decide +kernel, by decide +kernel, by decide +kernel⟩
theorem k_O_41 : Cw "PropertyDocuments$Outline" 41 yO_readDocument bO_readDocument 6 (some .int) 2 := ⟨w_447, w_449, w_11, w_57, w_450, by decide +kernel, by decide +kernel, by decide +kernel⟩
theorem k_O_50 : Cw "PropertyDocuments$Outline" 50 yB_holds bB_holds 3 (some .boolean) 2 := ⟨w_451, w_452, w_453, w_55, w_454, by decide +kernel, by decide +kernel, by decide +kernel⟩
theorem k_O_59 : Cw "PropertyDocuments$Outline" 59 yB_at bB_at 2 (some .int) 1 := ⟨w_458, w_459, w_460, w_55, w_461, by decide +kernel, by decide +kernel, by decide +kernel⟩
theorem k_O_63 : Cw "PropertyDocuments$Outline" 63 yO_readElement bO_readElement 7 (some .int) 3 := ⟨w_462, w_464, w_12, w_57, w_465, by decide +kernel, by decide +kernel, by decide +kernel⟩
theorem k_O_67 : Cw "PropertyDocuments$Outline" 67 yB_intAt bB_intAt 4 (some .int) 1 := ⟨w_478, w_479, w_480, w_55, w_481, by decide +kernel, by decide +kernel, by decide +kernel⟩
theorem k_O_70 : Cw "PropertyDocuments$Outline" 70 yO_endOfText bO_endOfText 4 (some .int) 1 := ⟨w_466, w_468, w_13, w_57, w_469, by decide +kernel, by decide +kernel, by decide +kernel⟩
theorem k_O_73 : Cw "PropertyDocuments$Outline" 73 yO_readContent bO_readContent 4 (some .int) 3 := ⟨w_470, w_472, w_14, w_57, w_473, by decide +kernel, by decide +kernel, by decide +kernel⟩
theorem k_O_76 : Cw "PropertyDocuments$Outline" 76 yO_readText bO_readText 5 (some .int) 1 := ⟨w_474, w_476, w_15, w_57, w_477, by decide +kernel, by decide +kernel, by decide +kernel⟩
theorem k_O_79 : Cw "PropertyDocuments$Outline" 79 yO_hasElement bO_hasElement 2 (some .boolean) 1 := ⟨w_495, w_497, w_17, w_57, w_498, by decide +kernel, by decide +kernel, by decide +kernel⟩
theorem k_O_83 : Cw "PropertyDocuments$Outline" 83 yO_nameByte bO_nameByte 3 (some .int) 2 := ⟨w_503, w_505, w_18, w_57, w_506, by decide +kernel, by decide +kernel, by decide +kernel⟩
theorem k_W_30 : Cw "PropertyDocuments$Writer" 30 yW_writeDocument bW_writeDocument 8 (some .boolean) 3 := ⟨w_372, w_374, w_4, w_56, w_375, by decide +kernel, by decide +kernel, by decide +kernel⟩
theorem k_W_34 : Cw "PropertyDocuments$Writer" 34 yI_kind bI_kind 2 (some .int) 1 := ⟨w_376, w_302, w_303, w_54, w_304, by decide +kernel, by decide +kernel, by decide +kernel⟩
theorem k_W_40 : Cw "PropertyDocuments$Writer" 40 yB_addNumber bB_addNumber 6 (some .boolean) 2 := ⟨w_377, w_378, w_379, w_55, w_380, by decide +kernel, by decide +kernel, by decide +kernel⟩
theorem k_W_44 : Cw "PropertyDocuments$Writer" 44 yW_writeMark bW_writeMark 2 (some .boolean) 1 := ⟨w_389, w_391, w_6, w_56, w_392, by decide +kernel, by decide +kernel, by decide +kernel⟩
theorem k_W_48 : Cw "PropertyDocuments$Writer" 48 yD_isKindOf bD_isKindOf 5 (some .boolean) 2 := ⟨w_395, w_261, w_262, w_53, w_263, by decide +kernel, by decide +kernel, by decide +kernel⟩
theorem k_W_54 : Cw "PropertyDocuments$Writer" 54 yW_writeOwnProperties bW_writeOwnProperties 6 (some .boolean) 3 := ⟨w_396, w_398, w_7, w_56, w_399, by decide +kernel, by decide +kernel, by decide +kernel⟩
theorem k_W_57 : Cw "PropertyDocuments$Writer" 57 yB_add bB_add 2 (some .boolean) 1 := ⟨w_393, w_386, w_387, w_55, w_388, by decide +kernel, by decide +kernel, by decide +kernel⟩
theorem k_W_60 : Cw "PropertyDocuments$Writer" 60 yB_replaceNumber bB_replaceNumber 6 none 3 := ⟨w_424, w_425, w_426, w_55, w_427, by decide +kernel, by decide +kernel, by decide +kernel⟩
theorem k_W_66 : Cw "PropertyDocuments$Writer" 66 yD_isOwn bD_isOwn 3 (some .boolean) 2 := ⟨w_400, w_401, w_402, w_53, w_403, by decide +kernel, by decide +kernel, by decide +kernel⟩
theorem k_W_69 : Cw "PropertyDocuments$Writer" 69 yW_writeProperty bW_writeProperty 8 (some .boolean) 3 := ⟨w_404, w_406, w_8, w_56, w_407, by decide +kernel, by decide +kernel, by decide +kernel⟩
theorem k_W_72 : Cw "PropertyDocuments$Writer" 72 yD_letter bD_letter 2 (some .int) 1 := ⟨w_408, w_409, w_410, w_53, w_411, by decide +kernel, by decide +kernel, by decide +kernel⟩
theorem k_W_75 : Cw "PropertyDocuments$Writer" 75 yI_valueAt bI_valueAt 3 (some .long) 2 := ⟨w_412, w_341, w_342, w_54, w_343, by decide +kernel, by decide +kernel, by decide +kernel⟩
theorem k_W_79 : Cw "PropertyDocuments$Writer" 79 yD_sort bD_sort 2 (some .int) 1 := ⟨w_413, w_314, w_315, w_53, w_316, by decide +kernel, by decide +kernel, by decide +kernel⟩
theorem k_W_82 : Cw "PropertyDocuments$Writer" 82 yW_writeHead bW_writeHead 3 (some .boolean) 2 := ⟨w_414, w_416, w_9, w_56, w_417, by decide +kernel, by decide +kernel, by decide +kernel⟩
theorem k_W_85 : Cw "PropertyDocuments$Writer" 85 yI_partnerAt bI_partnerAt 3 (some .int) 2 := ⟨w_418, w_349, w_350, w_54, w_351, by decide +kernel, by decide +kernel, by decide +kernel⟩
theorem k_W_89 : Cw "PropertyDocuments$Writer" 89 yD_target bD_target 2 (some .int) 1 := ⟨w_419, w_331, w_332, w_53, w_333, by decide +kernel, by decide +kernel, by decide +kernel⟩
theorem k_W_92 : Cw "PropertyDocuments$Writer" 92 yW_writeLink bW_writeLink 5 (some .boolean) 4 := ⟨w_420, w_422, w_10, w_56, w_423, by decide +kernel, by decide +kernel, by decide +kernel⟩
theorem k_L_13 : Cw "PropertyDocumentsLaw" 13 yP_define bP_define 2 (some .int) 1 := ⟨w_236, w_237, w_238, w_52, w_239, by decide +kernel, by decide +kernel, by decide +kernel⟩
theorem k_L_17 : Cw "PropertyDocumentsLaw" 17 yM_define bM_define 2 (some .int) 1 := ⟨w_713, w_714, w_715, w_59, w_716, by decide +kernel, by decide +kernel, by decide +kernel⟩
theorem k_L_18 : Cw "PropertyDocumentsLaw" 18 yP_property bP_property 5 (some .boolean) 4 := ⟨w_248, w_249, w_250, w_52, w_251, by decide +kernel, by decide +kernel, by decide +kernel⟩
theorem k_L_22 : Cw "PropertyDocumentsLaw" 22 yM_property bM_property 6 (some .boolean) 4 := ⟨w_721, w_722, w_723, w_59, w_724, by decide +kernel, by decide +kernel, by decide +kernel⟩
theorem k_L_23 : Cw "PropertyDocumentsLaw" 23 yP_make bP_make 2 (some .int) 1 := ⟨w_264, w_265, w_266, w_52, w_267, by decide +kernel, by decide +kernel, by decide +kernel⟩
theorem k_L_26 : Cw "PropertyDocumentsLaw" 26 yM_make bM_make 2 (some .int) 1 := ⟨w_737, w_738, w_739, w_59, w_740, by decide +kernel, by decide +kernel, by decide +kernel⟩
theorem k_L_29 : Cw "PropertyDocumentsLaw" 29 yP_put bP_put 6 (some .boolean) 3 := ⟨w_293, w_294, w_295, w_52, w_296, by decide +kernel, by decide +kernel, by decide +kernel⟩
theorem k_L_33 : Cw "PropertyDocumentsLaw" 33 yM_put bM_put 6 (some .boolean) 3 := ⟨w_746, w_747, w_748, w_59, w_749, by decide +kernel, by decide +kernel, by decide +kernel⟩
theorem k_L_34 : Cw "PropertyDocumentsLaw" 34 yP_link bP_link 5 (some .boolean) 3 := ⟨w_322, w_323, w_324, w_52, w_325, by decide +kernel, by decide +kernel, by decide +kernel⟩
theorem k_L_38 : Cw "PropertyDocumentsLaw" 38 yM_link bM_link 5 (some .boolean) 3 := ⟨w_760, w_761, w_762, w_59, w_763, by decide +kernel, by decide +kernel, by decide +kernel⟩
theorem k_L_39 : Cw "PropertyDocumentsLaw" 39 yP_value bP_value 3 (some .long) 2 := ⟨w_336, w_337, w_338, w_52, w_339, by decide +kernel, by decide +kernel, by decide +kernel⟩
theorem k_L_43 : Cw "PropertyDocumentsLaw" 43 yM_value bM_value 4 (some .long) 2 := ⟨w_764, w_765, w_766, w_59, w_767, by decide +kernel, by decide +kernel, by decide +kernel⟩
theorem k_L_44 : Cw "PropertyDocumentsLaw" 44 yP_linked bP_linked 3 (some .int) 2 := ⟨w_344, w_345, w_346, w_52, w_347, by decide +kernel, by decide +kernel, by decide +kernel⟩
theorem k_L_48 : Cw "PropertyDocumentsLaw" 48 yM_linked bM_linked 4 (some .int) 2 := ⟨w_768, w_769, w_770, w_59, w_771, by decide +kernel, by decide +kernel, by decide +kernel⟩
theorem k_L_49 : Cw "PropertyDocumentsLaw" 49 yP_classOf bP_classOf 2 (some .int) 1 := ⟨w_352, w_353, w_354, w_52, w_355, by decide +kernel, by decide +kernel, by decide +kernel⟩
theorem k_L_52 : Cw "PropertyDocumentsLaw" 52 yM_classOf bM_classOf 2 (some .int) 1 := ⟨w_772, w_773, w_774, w_59, w_775, by decide +kernel, by decide +kernel, by decide +kernel⟩
theorem k_L_53 : Cw "PropertyDocumentsLaw" 53 yP_objects bP_objects 1 (some .int) 0 := ⟨w_356, w_357, w_358, w_52, w_359, by decide +kernel, by decide +kernel, by decide +kernel⟩
theorem k_L_57 : Cw "PropertyDocumentsLaw" 57 yM_objects bM_objects 1 (some .int) 0 := ⟨w_776, w_777, w_778, w_59, w_779, by decide +kernel, by decide +kernel, by decide +kernel⟩
theorem k_L_58 : Cw "PropertyDocumentsLaw" 58 yP_drop bP_drop 1 none 0 := ⟨w_360, w_361, w_362, w_52, w_363, by decide +kernel, by decide +kernel, by decide +kernel⟩
theorem k_L_61 : Cw "PropertyDocumentsLaw" 61 yM_drop bM_drop 1 none 0 := ⟨w_780, w_781, w_782, w_59, w_783, by decide +kernel, by decide +kernel, by decide +kernel⟩
theorem k_L_62 : Cw "PropertyDocumentsLaw" 62 yP_encode bP_encode 3 (some .int) 2 := ⟨w_364, w_365, w_366, w_52, w_367, by decide +kernel, by decide +kernel, by decide +kernel⟩
theorem k_L_65 : Cw "PropertyDocumentsLaw" 65 yM_encode bM_encode 5 (some .int) 2 := ⟨w_784, w_785, w_786, w_59, w_787, by decide +kernel, by decide +kernel, by decide +kernel⟩
theorem k_L_66 : Cw "PropertyDocumentsLaw" 66 yP_decode bP_decode 2 (some .int) 1 := ⟨w_439, w_440, w_441, w_52, w_442, by decide +kernel, by decide +kernel, by decide +kernel⟩
theorem k_L_69 : Cw "PropertyDocumentsLaw" 69 yM_decode bM_decode 4 (some .int) 1 := ⟨w_854, w_855, w_856, w_59, w_857, by decide +kernel, by decide +kernel, by decide +kernel⟩
theorem k_L_70 : Cw "PropertyDocumentsLaw" 70 yP_sound bP_sound 1 (some .boolean) 0 := ⟨w_570, w_571, w_572, w_52, w_573, by decide +kernel, by decide +kernel, by decide +kernel⟩
theorem k_L_74 : Cw "PropertyDocumentsLaw" 74 yM_sound bM_sound 1 (some .boolean) 0 := ⟨w_814, w_815, w_816, w_59, w_817, by decide +kernel, by decide +kernel, by decide +kernel⟩
theorem k_L_75 : Cw "PropertyDocumentsLaw" 75 yP_depth bP_depth 1 (some .int) 0 := ⟨w_574, w_575, w_576, w_52, w_577, by decide +kernel, by decide +kernel, by decide +kernel⟩
theorem k_L_78 : Cw "PropertyDocumentsLaw" 78 yM_depth bM_depth 3 (some .int) 0 := ⟨w_846, w_847, w_848, w_59, w_849, by decide +kernel, by decide +kernel, by decide +kernel⟩
theorem k_L_79 : Cw "PropertyDocumentsLaw" 79 yP_elements bP_elements 1 (some .int) 0 := ⟨w_578, w_579, w_580, w_52, w_581, by decide +kernel, by decide +kernel, by decide +kernel⟩
theorem k_L_82 : Cw "PropertyDocumentsLaw" 82 yM_elements bM_elements 1 (some .int) 0 := ⟨w_850, w_851, w_852, w_59, w_853, by decide +kernel, by decide +kernel, by decide +kernel⟩
theorem k_L_83 : Cw "PropertyDocumentsLaw" 83 yP_size bP_size 1 (some .int) 0 := ⟨w_582, w_583, w_584, w_52, w_585, by decide +kernel, by decide +kernel, by decide +kernel⟩
theorem k_L_86 : Cw "PropertyDocumentsLaw" 86 yM_size bM_size 1 (some .int) 0 := ⟨w_886, w_887, w_888, w_59, w_889, by decide +kernel, by decide +kernel, by decide +kernel⟩
theorem k_L_87 : Cw "PropertyDocumentsLaw" 87 yP_byteAt bP_byteAt 2 (some .int) 1 := ⟨w_586, w_587, w_588, w_52, w_589, by decide +kernel, by decide +kernel, by decide +kernel⟩
theorem k_L_90 : Cw "PropertyDocumentsLaw" 90 yM_byteAt bM_byteAt 2 (some .int) 1 := ⟨w_890, w_891, w_892, w_59, w_893, by decide +kernel, by decide +kernel, by decide +kernel⟩
theorem k_L_91 : Cw "PropertyDocumentsLaw" 91 yP_poke bP_poke 3 (some .boolean) 2 := ⟨w_591, w_592, w_593, w_52, w_594, by decide +kernel, by decide +kernel, by decide +kernel⟩
theorem k_L_95 : Cw "PropertyDocumentsLaw" 95 yM_poke bM_poke 3 (some .boolean) 2 := ⟨w_894, w_895, w_896, w_59, w_897, by decide +kernel, by decide +kernel, by decide +kernel⟩
theorem k_L_96 : Cw "PropertyDocumentsLaw" 96 yP_cut bP_cut 2 (some .boolean) 1 := ⟨w_597, w_598, w_599, w_52, w_600, by decide +kernel, by decide +kernel, by decide +kernel⟩
theorem k_L_100 : Cw "PropertyDocumentsLaw" 100 yM_cut bM_cut 2 (some .boolean) 1 := ⟨w_898, w_899, w_900, w_59, w_901, by decide +kernel, by decide +kernel, by decide +kernel⟩
theorem k_M_84 : Cw "PropertyDocumentsModel" 84 yM_isKind bM_isKind 5 (some .boolean) 2 := ⟨w_725, w_727, w_26, w_59, w_728, by decide +kernel, by decide +kernel, by decide +kernel⟩
theorem k_M_91 : Cw "PropertyDocumentsModel" 91 yM_isOf bM_isOf 3 (some .boolean) 2 := ⟨w_733, w_735, w_28, w_59, w_736, by decide +kernel, by decide +kernel, by decide +kernel⟩
theorem k_M_94 : Cw "PropertyDocumentsModel" 94 yM_isClass bM_isClass 2 (some .boolean) 1 := ⟨w_717, w_719, w_25, w_59, w_720, by decide +kernel, by decide +kernel, by decide +kernel⟩
theorem k_M_101 : Cw "PropertyDocumentsModel" 101 yM_find bM_find 5 (some .int) 2 := ⟨w_729, w_731, w_27, w_59, w_732, by decide +kernel, by decide +kernel, by decide +kernel⟩
theorem k_M_107 : Cw "PropertyDocumentsModel" 107 yM_clear bM_clear 3 none 1 := ⟨w_741, w_743, w_29, w_59, w_744, by decide +kernel, by decide +kernel, by decide +kernel⟩
theorem k_M_111 : Cw "PropertyDocumentsModel" 111 yM_isObject bM_isObject 2 (some .boolean) 1 := ⟨w_754, w_756, w_31, w_59, w_757, by decide +kernel, by decide +kernel, by decide +kernel⟩
theorem k_M_114 : Cw "PropertyDocumentsModel" 114 yM_slot bM_slot 3 (some .int) 2 := ⟨w_750, w_752, w_30, w_59, w_753, by decide +kernel, by decide +kernel, by decide +kernel⟩
theorem k_M_130 : Cw "PropertyDocumentsModel" 130 yM_write bM_write 2 none 1 := ⟨w_797, w_799, w_34, w_59, w_800, by decide +kernel, by decide +kernel, by decide +kernel⟩
theorem k_M_136 : Cw "PropertyDocumentsModel" 136 yM_writeNumber bM_writeNumber 5 none 2 := ⟨w_792, w_794, w_33, w_59, w_795, by decide +kernel, by decide +kernel, by decide +kernel⟩
theorem k_M_142 : Cw "PropertyDocumentsModel" 142 yM_begin bM_begin 3 none 2 := ⟨w_788, w_790, w_32, w_59, w_791, by decide +kernel, by decide +kernel, by decide +kernel⟩
theorem k_M_146 : Cw "PropertyDocumentsModel" 146 yM_nth bM_nth 6 (some .int) 2 := ⟨w_802, w_804, w_35, w_59, w_805, by decide +kernel, by decide +kernel, by decide +kernel⟩
theorem k_M_149 : Cw "PropertyDocumentsModel" 149 yM_end bM_end 3 none 0 := ⟨w_806, w_808, w_36, w_59, w_809, by decide +kernel, by decide +kernel, by decide +kernel⟩
theorem k_M_152 : Cw "PropertyDocumentsModel" 152 yM_element bM_element 6 none 2 := ⟨w_810, w_812, w_37, w_59, w_813, by decide +kernel, by decide +kernel, by decide +kernel⟩
theorem k_M_164 : Cw "PropertyDocumentsModel" 164 yM_next bM_next 1 (some .int) 0 := ⟨w_830, w_832, w_41, w_59, w_833, by decide +kernel, by decide +kernel, by decide +kernel⟩
theorem k_M_174 : Cw "PropertyDocumentsModel" 174 yM_skip bM_skip 3 none 1 := ⟨w_826, w_828, w_40, w_59, w_829, by decide +kernel, by decide +kernel, by decide +kernel⟩
theorem k_M_180 : Cw "PropertyDocumentsModel" 180 yM_line bM_line 3 (some .int) 0 := ⟨w_838, w_840, w_43, w_59, w_841, by decide +kernel, by decide +kernel, by decide +kernel⟩
theorem k_M_183 : Cw "PropertyDocumentsModel" 183 yM_number bM_number 2 (some .int) 1 := ⟨w_842, w_844, w_44, w_59, w_845, by decide +kernel, by decide +kernel, by decide +kernel⟩
theorem k_M_187 : Cw "PropertyDocumentsModel" 187 yM_readDocument bM_readDocument 1 none 0 := ⟨w_822, w_824, w_39, w_59, w_825, by decide +kernel, by decide +kernel, by decide +kernel⟩
theorem k_M_190 : Cw "PropertyDocumentsModel" 190 yM_readElement bM_readElement 4 none 1 := ⟨w_834, w_836, w_42, w_59, w_837, by decide +kernel, by decide +kernel, by decide +kernel⟩
theorem k_M_193 : Cw "PropertyDocumentsModel" 193 yM_read bM_read 2 (some .boolean) 0 := ⟨w_818, w_820, w_38, w_59, w_821, by decide +kernel, by decide +kernel, by decide +kernel⟩
theorem k_M_197 : Cw "PropertyDocumentsModel" 197 yM_isMark bM_isMark 2 (some .boolean) 1 := ⟨w_866, w_868, w_47, w_59, w_869, by decide +kernel, by decide +kernel, by decide +kernel⟩
theorem k_M_200 : Cw "PropertyDocumentsModel" 200 yM_mean bM_mean 5 (some .boolean) 1 := ⟨w_862, w_864, w_46, w_59, w_865, by decide +kernel, by decide +kernel, by decide +kernel⟩
theorem k_M_203 : Cw "PropertyDocumentsModel" 203 yM_about bM_about 2 (some .int) 1 := ⟨w_870, w_872, w_48, w_59, w_873, by decide +kernel, by decide +kernel, by decide +kernel⟩
theorem k_M_206 : Cs "PropertyDocumentsModel" 206 yM_typeFits bM_typeFits 2 (some .boolean) 2 := ⟨w_874, w_875, w_59, w_876, by decide +kernel, by decide +kernel, by decide +kernel⟩
theorem k_M_211 : Cw "PropertyDocumentsModel" 211 yM_long64 bM_long64 2 (some .long) 1 := ⟨w_881, w_883, w_50, w_59, w_884, by decide +kernel, by decide +kernel, by decide +kernel⟩
theorem k_M_215 : Cw "PropertyDocumentsModel" 215 yM_fits bM_fits 5 (some .boolean) 1 := ⟨w_858, w_860, w_45, w_59, w_861, by decide +kernel, by decide +kernel, by decide +kernel⟩
theorem k_M_218 : Cw "PropertyDocumentsModel" 218 yM_take bM_take 5 none 2 := ⟨w_877, w_879, w_49, w_59, w_880, by decide +kernel, by decide +kernel, by decide +kernel⟩
theorem w_max1 : Cond.methodLink "PropertyDocuments$Outline" 54 Lib.Math.max.name ∈ bw := w_455
theorem w_max2 : Cond.static Lib.Math.max.name ∈ bw := w_456
theorem w_max3 : Cond.initialized "java/lang/Math" ∈ bw := w_61
theorem w_max4 : Cond.code Lib.Math.max.name Lib.Math.max.code 2 (some .int) ∈ bw := w_457
theorem w_cp1 : Cond.methodLink "PropertyDocuments$Bytes" 40 arraycopyName ∈ bw := w_436
theorem w_cp2 : Cond.native arraycopyName ∈ bw := w_438
theorem w_cp3 : Cond.static arraycopyName ∈ bw := w_437
theorem w_cp4 : Cond.initialized "java/lang/System" ∈ bw := w_60
end
section
/-! making objects: contract Nu (one cell in, that cell and new ones out), rows for it -/
def rC (n mc ms : Nat) : Room := { frames := n, cells := mc, slots := ms, locals := 40 * n }
def Nu (l : Launch) (y : MethodName) (cy : ByteArray) (n : Nat) (rm : Room) (av : List Value) (D : va_G) (cI cJ : ClassId) (ws : va_W) (mc ms : Nat) (Ps : va_W → Prop) : Prop :=
  ∀ sz : Nat, Met l y (Cond.code y cy n none :: bw) rm (va_Pc av (fun U => U.heap.size = sz ∧ B0 D cI cJ ws U ∧ va_D (fun _ => True) ws)) (fun _ st oc t => (oc = .returned none ∧ ∃ w1, Ps w1 ∧ va_P D cs w1 t.heap ∧ va_D (va_A ws sz) w1) ∧ va_F (va_A ws sz) st t) mc ms (va_A ws sz)
theorem w_oi2 : Cond.instanceMethod Lib.objectInit ∈ bw := w_68
theorem w_oi3 : Cond.code Lib.objectInit ⟨#[0xb1]⟩ 1 none ∈ bw := w_69
theorem w_aI : Cond.arrayClass .int ∈ bw := w_98
theorem w_aJ : Cond.arrayClass .long ∈ bw := w_120
section CTOR
variable {p : Program} {l : Launch} {e : Env} {R : Room} {s : State} {m : MethodId} {args : Array Value} {below : List Frame} {meth : Method} {c : Code} {H : Heap} {locs : List Loc} {cells slots : Nat} {Q : State → Prop}
variable {cc : ByteArray} {pc nL : Nat} {ls : Array Slot} {rest : List Value} {own : String} {D : va_G} {cI cJ : ClassId} {ws : va_W} {A : Nat → Prop} {H0 : Heap}
/-- Object's own maker -/
theorem oi (S : CallFix p m c cc nL s args bw own) {idx a : Nat} (h1 : Cond.methodLink own idx Lib.objectInit ∈ bw) (hl : ls.size = nL) (hf : 1 ≤ R.frames) (hlo : (rest.map fun v => v.category).sum + 12 ≤ R.locals) (hdg : decode cc pc = .ok (.invokespecial idx, 3))
    (kk : W p l e R s m args below meth c H locs cells slots Q (F0 m (pc + 3) ls rest)) : W p l e R s m args below meth c H locs cells slots Q (F0 m pc ls (.ref a :: rest)) :=
  W.objInit (g := F0 m pc ls (.ref a :: rest)) S.1 S.2.1 S.2.2.2.1 (S.2.2.2.2 _ h1) (S.2.2.2.2 _ w_oi2) (S.2.2.2.2 _ w_oi3) rfl (hl.trans S.2.2.1.symm) rfl hdg hf (by show 2 * 0 + _ + 12 ≤ _; omega) (W.eq (g2 := F0 m (pc + 3) ls rest) rfl kk)
/-- a new row of ints -/
theorem nwI (S : CallFix p m c cc nL s args bw own) (hK : va_K D cs (tys cI cJ) s) (hP : va_P D cs ws H) (hD : va_D A ws) (hS : va_S A H0 H locs) (hA : ∀ q, H0.size ≤ q → A q) {n : Int32} {N' : Nat} (hn : ¬ n < 0) (hN : n.toNatClampNeg = N') (hy : N' * componentBytes .int ≤ 536870912) (hcells : cells + 1 ≤ R.cells) (hslots : slots + N' ≤ R.slots) (hdg : decode cc pc = .ok (.newarray .int, 2))
    (kk : ∀ (q : Nat) (H1 : Heap), va_P D cs (ws ++ [(q, .inl (cI, N', .inl (fun _ => 0)))]) H1 → va_D A (ws ++ [(q, .inl (cI, N', .inl (fun _ => 0)))]) → va_S A H0 H1 locs → W p l e R s m args below meth c H1 locs (cells + 1) (slots + N') Q (F0 m (pc + 2) ls (.ref q :: rest))) : W p l e R s m args below meth c H locs cells slots Q (F0 m pc ls (.int n :: rest)) := by
  refine va_newa (atype := .int) (ty := .int) (a0 := (N', .inl (fun _ => 0))) S.1 S.2.1 (S.2.2.2.2 _ w_aI) rfl hK hP hD hS hA (fun _ => rfl) hn hN hy hcells hslots hdg (fun q cA H1 hK1 hP1 hD1 hS1 => ?_)
  have e1 : s.vm.findClass ("[" ++ FieldType.int.toString) = some cI := (hK.2 0 _ rfl).2
  have e2 : s.vm.findClass ("[" ++ FieldType.int.toString) = some cA := (hK1.2 2 _ rfl).2
  have e3 : cA = cI := Option.some.inj (e2.symm.trans e1)
  subst e3
  exact kk q H1 hP1 hD1 hS1
theorem nwJ (S : CallFix p m c cc nL s args bw own) (hK : va_K D cs (tys cI cJ) s) (hP : va_P D cs ws H) (hD : va_D A ws) (hS : va_S A H0 H locs) (hA : ∀ q, H0.size ≤ q → A q) {n : Int32} {N' : Nat} (hn : ¬ n < 0) (hN : n.toNatClampNeg = N') (hy : N' * componentBytes .long ≤ 536870912) (hcells : cells + 1 ≤ R.cells) (hslots : slots + N' ≤ R.slots) (hdg : decode cc pc = .ok (.newarray .long, 2))
    (kk : ∀ (q : Nat) (H1 : Heap), va_P D cs (ws ++ [(q, .inl (cJ, N', .inr (.inl (fun _ => 0))))]) H1 → va_D A (ws ++ [(q, .inl (cJ, N', .inr (.inl (fun _ => 0))))]) → va_S A H0 H1 locs → W p l e R s m args below meth c H1 locs (cells + 1) (slots + N') Q (F0 m (pc + 2) ls (.ref q :: rest))) : W p l e R s m args below meth c H locs cells slots Q (F0 m pc ls (.int n :: rest)) := by
  refine va_newa (atype := .long) (ty := .long) (a0 := (N', .inr (.inl (fun _ => 0)))) S.1 S.2.1 (S.2.2.2.2 _ w_aJ) rfl hK hP hD hS hA (fun _ => rfl) hn hN hy hcells hslots hdg (fun q cA H1 hK1 hP1 hD1 hS1 => ?_)
  have e1 : s.vm.findClass ("[" ++ FieldType.long.toString) = some cJ := (hK.2 1 _ rfl).2
  have e2 : s.vm.findClass ("[" ++ FieldType.long.toString) = some cA := (hK1.2 2 _ rfl).2
  have e3 : cA = cJ := Option.some.inj (e2.symm.trans e1)
  subst e3
  exact kk q H1 hP1 hD1 hS1
/-- a new object -/
theorem nwo (S : CallFix p m c cc nL s args bw own) (hK : va_K D cs (tys cI cJ) s) (hP : va_P D cs ws H) (hD : va_D A ws) (hS : va_S A H0 H locs) (hA : ∀ q, H0.size ≤ q → A q) (ci : Nat) {idx N : Nat} {C : String} {T : u_T} (t0 : Nat → FieldType) (hin : ∀ w ∈ u_ws C T N, w ∈ bw) (hty : ∀ k, k < N → parseFieldDescriptor (T k).2.2.1 = some (t0 k))
    (h1 : Cond.classLink own idx C ∈ bw) (h2 : Cond.instantiable C N ∈ bw) (h3 : Cond.initialized C ∈ bw) (hc : cs[ci]? = some (C, T, N)) {fs : List Value} (hfs : ∀ j, j < N → defaultValue (t0 j) = vp_V fs j) (hcells : cells + 1 ≤ R.cells) (hslots : slots + N ≤ R.slots) (hdg : decode cc pc = .ok (.new idx, 3))
    (kk : ∀ (q : Nat) (H1 : Heap), va_P D cs (ws ++ [(q, .inr (ci, fs))]) H1 → va_D A (ws ++ [(q, .inr (ci, fs))]) → va_S A H0 H1 locs → W p l e R s m args below meth c H1 locs (cells + 1) (slots + N) Q (F0 m (pc + 3) ls (.ref q :: rest))) : W p l e R s m args below meth c H locs cells slots Q (F0 m pc ls rest) :=
  va_new S.1 S.2.1 S.2.2.2.2 hin t0 hty S.2.2.2.1 (S.2.2.2.2 _ h1) (S.2.2.2.2 _ h2) (S.2.2.2.2 _ h3) hK hP hD hS hA hc hfs hcells hslots hdg kk
/-- a final field, in the maker -/
theorem pfF (S : CallFix p m c cc nL s args bw own) (hK : va_K D cs (tys cI cJ) s) (hP : va_P D cs ws H) (hD : va_D A ws) (hS : va_S A H0 H locs) (hin2 : meth.name = "<init>") (q0 ci k : Nat) {a idx N : Nat} {C : String} {T : u_T} {fs : List Value} {v : Value} {ty : FieldType} (t0 : Nat → FieldType) (hin : ∀ w ∈ u_ws C T N, w ∈ bw)
    (hty : ∀ k, k < N → parseFieldDescriptor (T k).2.2.1 = some (t0 k)) (hnm : ∀ a, a < N → ∀ b, b < N → a ≠ b → (T a).2.1 ≠ (T b).2.1) (hl : Cond.fieldLink own idx (T k).1 (T k).2.1 (T k).2.2.1 ∈ bw)
    (he : ws[q0]? = some (a, .inr (ci, fs))) (hc : cs[ci]? = some (C, T, N)) (hk : k < N) (hfin : (T k).2.2.2 = true) (hdecl : (T k).1 = own) (hd : t0 k = ty) (hn : narrow ty v = v) (hfit : fits ty v = true) (hl2 : k < fs.length) (hdg : decode cc pc = .ok (.putfield idx, 3))
    (kk : ∀ (H1 : Heap) (locs1 : List Loc), va_P D cs (ws.set q0 (a, .inr (ci, fs.set k v))) H1 → va_D A (ws.set q0 (a, .inr (ci, fs.set k v))) → va_S A H0 H1 locs1 → W p l e R s m args below meth c H1 locs1 cells slots Q (F0 m (pc + 3) ls rest)) : W p l e R s m args below meth c H locs cells slots Q (F0 m pc ls (v :: .ref a :: rest)) :=
  va_putF S.1 S.2.1 S.2.2.2.2 hin t0 hty hnm S.2.2.2.1 hK hP hD hS q0 he hc k hk (S.2.2.2.2 _ hl) (fun _ h => h) hfin hin2 hdecl (by rw [hty k hk, hd]) hn hfit hl2 hdg kk
/-- behind the call of a maker -/
theorem nu_b {wc wr : va_W} {mc ms : Nat} {Ps : va_W → Prop} {st0 : List Value} (hP : va_P D cs ws H) (hD : va_D A ws) (hS : va_S A H0 H locs) (hA : ∀ q, H0.size ≤ q → A q) (isC isR : List Nat) (hC : isC.map (fun i => ws[i]?) = wc.map some) (hRr : isR.map (fun i => ws[i]?) = wr.map some) (hn : va_nd isR = true) (hdis : ∀ i ∈ isR, i ∉ isC)
    (hr : va_Run p l e R s m args below meth c H locs cells slots mc ms (F0 m pc ls st0) rest (fun st oc t => (oc = .returned none ∧ ∃ w1, Ps w1 ∧ va_P D cs w1 t.heap ∧ va_D (va_A wc H.size) w1) ∧ va_F (va_A wc H.size) st t) (va_A wc H.size))
    (kk : ∀ (w1 : va_W) (H1 : Heap) (locs1 : List Loc), Ps w1 → va_P D cs (wr ++ w1) H1 → va_D A (wr ++ w1) → va_S A H0 H1 locs1 → W p l e R s m args below meth c H1 locs1 (cells + mc) (slots + ms) Q (F0 m (pc + 3) ls rest)) : W p l e R s m args below meth c H locs cells slots Q (F0 m pc ls st0) := by
  have hF := va_free hD hS hA isC hC
  intro T0 hT X
  obtain ⟨v', st₀, t, T', L, h0, X', hL, e1, e2, ⟨⟨hv, w1, hp, hP1, hD1⟩, hz, hk1⟩, st⟩ := hr T0 hT X
  cases hv
  rw [h0] at hz hk1
  obtain ⟨hP2, hD2⟩ := va_join (H1 := t.heap) hP hD isC isR hC hRr hn hdis hk1 hF hP1 hD1
  obtain ⟨t2, a1, b1⟩ := kk w1 t.heap (locs ++ L) hp hP2 hD2 ⟨Nat.le_trans hS.1 hz, fun q h1 h2 => by rw [hk1 q (Nat.lt_of_lt_of_le h1 hS.1) (fun z => h2 (hF q z))]; exact hS.2.1 q h1 h2, fun q hq => by
      rcases List.mem_append.mp hq with h | h
      · exact hS.2.2 q h
      · exact hF _ (hL q h)⟩ T' e1 X'
  exact ⟨t2, st t2 a1, b1⟩
/-- the call of a maker -/
theorem nu_i (S : CallFix p m c cc nL s args bw own) (hN : kw s) (hK : va_K D cs (tys cI cJ) s) (hP : va_P D cs ws H) (hD : va_D A ws) (hS : va_S A H0 H locs) (hA : ∀ q, H0.size ≤ q → A q) {idx n k b mc ms : Nat} {y : MethodName} {cy : ByteArray} {rm : Room} {As : List Value} {wc wr : va_W} {Ps : va_W → Prop}
    (hM : Nu l y cy n rm (.ref b :: As) D cI cJ wc mc ms Ps) (hy : y.name = "<init>") (h1 : Cond.methodLink own idx y ∈ bw) (h2 : Cond.instanceMethod y ∈ bw) (h3 : Cond.initialized y.cls ∈ bw) (h4 : Cond.code y cy n none ∈ bw) (h5 : y.cls ≠ "java/lang/invoke/MethodHandle" ∧ y.cls ≠ "java/lang/invoke/VarHandle" ∧ (parseMethodDescriptor y.desc).map (fun d => d.parameters.length) = some k)
    (isC isR : List Nat) (hnd : va_nd isC = true) (hC : isC.map (fun i => ws[i]?) = wc.map some) (hRr : isR.map (fun i => ws[i]?) = wr.map some) (hn : va_nd isR = true) (hdis : ∀ i ∈ isR, i ∉ isC)
    (hrm : rm.cells = mc ∧ rm.slots = ms) (hR : rm.frames + 1 ≤ R.frames ∧ 8 + (n + 11) + rm.locals ≤ R.locals) (hk : As.length = k) (hsz : ls.size = nL) (hst : (rest.map fun v => v.category).sum ≤ 8) (hf : cells + mc ≤ R.cells ∧ slots + ms ≤ R.slots) (hdg : decode cc pc = .ok (.invokespecial idx, 3)) {st0 : List Value} (hst0 : st0 = As.reverse ++ .ref b :: rest)
    (kk : ∀ (w1 : va_W) (H1 : Heap) (locs1 : List Loc), Ps w1 → va_P D cs (wr ++ w1) H1 → va_D A (wr ++ w1) → va_S A H0 H1 locs1 → W p l e R s m args below meth c H1 locs1 (cells + mc) (slots + ms) Q (F0 m (pc + 3) ls rest)) : W p l e R s m args below meth c H locs cells slots Q (F0 m pc ls st0) := by
  have hPc : va_P D cs wc H := fun k q hq => by
    obtain ⟨i, -, h2⟩ := map_at hC k q hq
    exact hP i q h2
  have hDc : va_D A wc := hD.sub isC hnd hC
  have hp : PreS s H (va_Pc (.ref b :: As) (fun U => U.heap.size = H.size ∧ B0 D cI cJ wc U ∧ va_D (fun _ => True) wc)) (.ref b :: As) := ⟨fun a U g mk q => ⟨q.1, q.2.1, ⟨q.2.2.1.1, va_K.moved (u := U) (U := U.calling g mk a) (Vm.Alike.refl U.vm) q.2.2.1.2.1, kw_call q.2.2.1.2.2⟩, q.2.2.2⟩, fun U hU hW => ⟨rfl, by rw [hU], ⟨by rw [hU]; exact hPc, va_K.moved hW.alike hK, kw_warm hW hN⟩, hDc.weaken (fun _ _ _ _ => trivial)⟩⟩
  exact nu_b hP hD hS hA isC isR hC hRr hn hdis (va_runI (g := F0 m pc ls st0) (rest := rest) S (hM H.size) ⟨callB_of k S.2.2.2.2 (bw_g h4) rfl hrm.1 hrm.2 (S.2.2.2.2 _ h3) (S.2.2.2.2 _ h1) h5 hR, hy, S.2.2.2.2 _ h2⟩ hp rfl hk hsz hst0 (lv_room hst) hdg hf) kk
/-- the call of a nest mate's maker -/
theorem nu_iN (S : CallFix p m c cc nL s args bw own) (hN : kw s) (hK : va_K D cs (tys cI cJ) s) (hP : va_P D cs ws H) (hD : va_D A ws) (hS : va_S A H0 H locs) (hA : ∀ q, H0.size ≤ q → A q) {idx n k b mc ms : Nat} {y : MethodName} {cy : ByteArray} {rm : Room} {As : List Value} {wc wr : va_W} {Ps : va_W → Prop} {host : String}
    (hM : Nu l y cy n rm (.ref b :: As) D cI cJ wc mc ms Ps) (hy : y.name = "<init>") (h1 : Cond.methodLinkNest own idx y host ∈ nw) (h2 : Cond.instanceMethod y ∈ bw) (h3 : Cond.initialized y.cls ∈ bw) (h4 : Cond.code y cy n none ∈ bw) (h5 : y.cls ≠ "java/lang/invoke/MethodHandle" ∧ y.cls ≠ "java/lang/invoke/VarHandle" ∧ (parseMethodDescriptor y.desc).map (fun d => d.parameters.length) = some k)
    (isC isR : List Nat) (hnd : va_nd isC = true) (hC : isC.map (fun i => ws[i]?) = wc.map some) (hRr : isR.map (fun i => ws[i]?) = wr.map some) (hn : va_nd isR = true) (hdis : ∀ i ∈ isR, i ∉ isC)
    (hrm : rm.cells = mc ∧ rm.slots = ms) (hR : rm.frames + 1 ≤ R.frames ∧ 8 + (n + 11) + rm.locals ≤ R.locals) (hk : As.length = k) (hsz : ls.size = nL) (hst : (rest.map fun v => v.category).sum ≤ 8) (hf : cells + mc ≤ R.cells ∧ slots + ms ≤ R.slots) (hdg : decode cc pc = .ok (.invokespecial idx, 3)) {st0 : List Value} (hst0 : st0 = As.reverse ++ .ref b :: rest)
    (kk : ∀ (w1 : va_W) (H1 : Heap) (locs1 : List Loc), Ps w1 → va_P D cs (wr ++ w1) H1 → va_D A (wr ++ w1) → va_S A H0 H1 locs1 → W p l e R s m args below meth c H1 locs1 (cells + mc) (slots + ms) Q (F0 m (pc + 3) ls rest)) : W p l e R s m args below meth c H locs cells slots Q (F0 m pc ls st0) := by
  have hPc : va_P D cs wc H := fun k q hq => by
    obtain ⟨i, -, h2⟩ := map_at hC k q hq
    exact hP i q h2
  have hDc : va_D A wc := hD.sub isC hnd hC
  have hp : PreS s H (va_Pc (.ref b :: As) (fun U => U.heap.size = H.size ∧ B0 D cI cJ wc U ∧ va_D (fun _ => True) wc)) (.ref b :: As) := ⟨fun a U g mk q => ⟨q.1, q.2.1, ⟨q.2.2.1.1, va_K.moved (u := U) (U := U.calling g mk a) (Vm.Alike.refl U.vm) q.2.2.1.2.1, kw_call q.2.2.1.2.2⟩, q.2.2.2⟩, fun U hU hW => ⟨rfl, by rw [hU], ⟨by rw [hU]; exact hPc, va_K.moved hW.alike hK, kw_warm hW hN⟩, hDc.weaken (fun _ _ _ _ => trivial)⟩⟩
  exact nu_b hP hD hS hA isC isR hC hRr hn hdis (va_runIN (g := F0 m pc ls st0) (rest := rest) S (hM H.size) ⟨va_cnB k S.2.2.2.2 (bw_g h4) rfl hrm.1 hrm.2 (hN _ h1) (S.2.2.2.2 _ h3) h5 hR, hy, S.2.2.2.2 _ h2⟩ hp rfl hk hsz hst0 (lv_room hst) hdg hf) kk
/-- the end of a maker -/
theorem nu_n {w0 wE : va_W} {mc ms : Nat} {Ps : va_W → Prop} (S : CallFix p m c cc nL s args bw own) (hr : meth.sig.returnType = none) (hlocks : meth.locks = false) (hP : va_P D cs wE H) (hD : va_D (va_A w0 s.heap.size) wE) (hS : va_S (va_A w0 s.heap.size) s.heap H locs) (hdg : decode cc pc = .ok (.return_, 1)) (hw : Ps wE) (hc : cells ≤ mc) (hsl : slots ≤ ms) : W p l e R s m args below meth c H locs cells slots (MQ below (fun _ st oc t => (oc = .returned none ∧ ∃ w1, Ps w1 ∧ va_P D cs w1 t.heap ∧ va_D (va_A w0 s.heap.size) w1) ∧ va_F (va_A w0 s.heap.size) st t) args s mc ms (va_A w0 s.heap.size)) (F0 m pc ls []) := by
  refine W.widen (k := mc) (n := ms) hc hsl ?_
  exact W.vret S.1 S.2.1 hr (fun t ht _ => ⟨⟨rfl, wE, hw, by rw [ht]; exact hP, hD⟩, hS.F ht⟩) hS.2.2 hdg hlocks
end CTOR
/-- a maker's contract out of its walk -/
theorem nu_of {l : Launch} {y : MethodName} {cy : ByteArray} {n mc ms : Nat} {rm : Room} {av : List Value} {D : va_G} {cI cJ : ClassId} {ws : va_W} {Ps : va_W → Prop} (hy : plainName y.cls = true) (hyi : y.name = "<init>") (hn : (lg_sl av).length ≤ n)
    (body : ∀ (p : Program) (e : Env) (s : State) (m : MethodId) (below : List Frame) (meth : Method) (c : Code) (ls : Array Slot), CallFix p m c cy n s av.toArray bw y.cls → meth.sig.returnType = none → meth.locks = false → meth.name = "<init>" → kw s → va_K D cs (tys cI cJ) s → va_P D cs ws s.heap → va_D (va_A ws s.heap.size) ws → lv_has ls n (lv_args 0 av) →
      W p l e rm s m av.toArray below meth c s.heap [] 0 0 (MQ below (fun _ st oc t => (oc = .returned none ∧ ∃ w1, Ps w1 ∧ va_P D cs w1 t.heap ∧ va_D (va_A ws s.heap.size) w1) ∧ va_F (va_A ws s.heap.size) st t) av.toArray s mc ms (va_A ws s.heap.size)) (F0 m 0 ls [])) : Nu l y cy n rm av D cI cJ ws mc ms Ps := by
  intro sz
  refine Met.ofW (cc := cy) (maxL := n) (ret := none) hy rfl ?_
  intro p e s m args below meth c s₁ B hml hv
  obtain ⟨rfl, rfl, ⟨hP, hK, hN⟩, hD⟩ := hv
  have hts := atoms_spec (ws := Cond.code y cy n none :: bw) B.pre
  have hown : s.vm.findClass y.cls = some m.cls := findClass_of_methodNamed B.named
  have hl := lv_entry av (n := n) hn
  rw [lg_entry_eq]
  exact body p e s m below meth c _ ⟨B.exec, B.bytes, hml, hown, fun w h => hts w (List.mem_cons_of_mem _ h)⟩ B.returns B.notSynchronized ((name_of_methodNamed B.named B.method).1.trans hyi) hN hK hP hD.self hl
end
section
/-! the makers' contracts, laid by wip/gen/ctor.py -/
set_option maxHeartbeats 4000000 in
set_option maxRecDepth 100000 in
theorem cB_init (l : Launch) (D : va_G) (cI cJ : ClassId) (bA : Nat) : Nu l yB_init bB_init 1 (rC 1 1 120) [.ref bA] D cI cJ [(bA, .inr (0, [.null, .int 0]))] 1 120 (fun w1 => ∃ (bA0 : Nat), w1 = [(bA, .inr (0, [.ref bA0, .int 0])), (bA0, .inl (cI, 120, .inl (fun _ => 0)))]) := by
  refine nu_of (by decide) rfl (Nat.le_of_ble_eq_true rfl) ?_
  intro p e s m below meth c ls S hr hlocks hin hN hK hP hD hl
  have hA : ∀ q : Nat, s.heap.size ≤ q → va_A [(bA, .inr (0, [.null, .int 0]))] s.heap.size q := fun q h => Or.inr h
  have hS : va_S (va_A [(bA, .inr (0, [.null, .int 0]))] s.heap.size) s.heap s.heap [] := va_S.rf
  have hx := S.1
  have hb := S.2.1
  have hl : lv_has ls 1 [(0, .ref bA)] := hl
  refine lv_aload_n hx hb dB_init_0 rfl (lv_at hl 0 rfl) ?_
  refine oi S (idx := 3) w_126 hl.1 (Nat.le_of_ble_eq_true rfl) (Nat.le_of_ble_eq_true rfl) dB_init_1 ?_
  refine lv_aload_n hx hb dB_init_4 rfl (lv_at hl 0 rfl) ?_
  refine lv_bipush (v := 120) hx hb dB_init_5 (by decide) ?_
  refine nwI S hK hP hD hS hA (N' := 120) (by decide) (by decide) (by decide) (Nat.le_of_ble_eq_true rfl) (Nat.le_of_ble_eq_true rfl) dB_init_7 (fun bA0 H hP hD hS => ?_)
  have hP : va_P D cs [(bA, .inr (0, [.null, .int 0])), (bA0, .inl (cI, 120, .inl (fun _ => 0)))] H := hP
  have hD : va_D _ [(bA, .inr (0, [.null, .int 0])), (bA0, .inl (cI, 120, .inl (fun _ => 0)))] := hD
  refine pfF S hK hP hD hS hin 0 0 0 (v := .ref bA0) zB_t u_zB zB_k zB_n w_127 rfl rfl (by decide) rfl rfl rfl rfl rfl (Nat.le_of_ble_eq_true rfl) dB_init_9 (fun H locs hP hD hS => ?_)
  have hP : va_P D cs [(bA, .inr (0, [.ref bA0, .int 0])), (bA0, .inl (cI, 120, .inl (fun _ => 0)))] H := hP
  have hD : va_D _ [(bA, .inr (0, [.ref bA0, .int 0])), (bA0, .inl (cI, 120, .inl (fun _ => 0)))] := hD
  refine lv_aload_n hx hb dB_init_12 rfl (lv_at hl 0 rfl) ?_
  refine lv_iconst (v := 0) hx hb dB_init_13 (by decide) ?_
  refine pf S hK hP hD hS 0 0 1 (v := .int 0) zB_t u_zB zB_k zB_n w_128 rfl rfl (by decide) rfl rfl rfl rfl (Nat.le_of_ble_eq_true rfl) dB_init_14 (fun H locs hP hD hS => ?_)
  have hP : va_P D cs [(bA, .inr (0, [.ref bA0, .int 0])), (bA0, .inl (cI, 120, .inl (fun _ => 0)))] H := hP
  have hD : va_D _ [(bA, .inr (0, [.ref bA0, .int 0])), (bA0, .inl (cI, 120, .inl (fun _ => 0)))] := hD
  exact nu_n S hr hlocks (hP.sub (ws' := [(bA, .inr (0, [.ref bA0, .int 0])), (bA0, .inl (cI, 120, .inl (fun _ => 0)))]) [0, 1] rfl) (hD.sub (ws' := [(bA, .inr (0, [.ref bA0, .int 0])), (bA0, .inl (cI, 120, .inl (fun _ => 0)))]) [0, 1] rfl rfl) hS dB_init_17 ⟨bA0, rfl⟩ (Nat.le_of_ble_eq_true rfl) (Nat.le_of_ble_eq_true rfl)
set_option maxHeartbeats 4000000 in
set_option maxRecDepth 100000 in
theorem cD_init (l : Launch) (D : va_G) (cI cJ : ClassId) (dA : Nat) : Nu l yD_init bD_init 1 (rC 1 5 38) [.ref dA] D cI cJ [(dA, .inr (1, [.null, .null, .null, .null, .null, .int 0, .int 0]))] 5 38 (fun w1 => ∃ (dA0 dA1 dA2 dA3 dA4 : Nat), w1 = [(dA, .inr (1, [.ref dA0, .ref dA1, .ref dA2, .ref dA3, .ref dA4, .int 0, .int 0])), (dA0, .inl (cI, 6, .inl (fun _ => 0))), (dA1, .inl (cI, 8, .inl (fun _ => 0))), (dA2, .inl (cI, 8, .inl (fun _ => 0))), (dA3, .inl (cI, 8, .inl (fun _ => 0))), (dA4, .inl (cI, 8, .inl (fun _ => 0)))]) := by
  refine nu_of (by decide) rfl (Nat.le_of_ble_eq_true rfl) ?_
  intro p e s m below meth c ls S hr hlocks hin hN hK hP hD hl
  have hA : ∀ q : Nat, s.heap.size ≤ q → va_A [(dA, .inr (1, [.null, .null, .null, .null, .null, .int 0, .int 0]))] s.heap.size q := fun q h => Or.inr h
  have hS : va_S (va_A [(dA, .inr (1, [.null, .null, .null, .null, .null, .int 0, .int 0]))] s.heap.size) s.heap s.heap [] := va_S.rf
  have hx := S.1
  have hb := S.2.1
  have hl : lv_has ls 1 [(0, .ref dA)] := hl
  refine lv_aload_n hx hb dD_init_0 rfl (lv_at hl 0 rfl) ?_
  refine oi S (idx := 3) w_75 hl.1 (Nat.le_of_ble_eq_true rfl) (Nat.le_of_ble_eq_true rfl) dD_init_1 ?_
  refine lv_aload_n hx hb dD_init_4 rfl (lv_at hl 0 rfl) ?_
  refine lv_bipush (v := 6) hx hb dD_init_5 (by decide) ?_
  refine nwI S hK hP hD hS hA (N' := 6) (by decide) (by decide) (by decide) (Nat.le_of_ble_eq_true rfl) (Nat.le_of_ble_eq_true rfl) dD_init_7 (fun dA0 H hP hD hS => ?_)
  have hP : va_P D cs [(dA, .inr (1, [.null, .null, .null, .null, .null, .int 0, .int 0])), (dA0, .inl (cI, 6, .inl (fun _ => 0)))] H := hP
  have hD : va_D _ [(dA, .inr (1, [.null, .null, .null, .null, .null, .int 0, .int 0])), (dA0, .inl (cI, 6, .inl (fun _ => 0)))] := hD
  refine pfF S hK hP hD hS hin 0 1 0 (v := .ref dA0) zD_t u_zD zD_k zD_n w_76 rfl rfl (by decide) rfl rfl rfl rfl rfl (Nat.le_of_ble_eq_true rfl) dD_init_9 (fun H locs hP hD hS => ?_)
  have hP : va_P D cs [(dA, .inr (1, [.ref dA0, .null, .null, .null, .null, .int 0, .int 0])), (dA0, .inl (cI, 6, .inl (fun _ => 0)))] H := hP
  have hD : va_D _ [(dA, .inr (1, [.ref dA0, .null, .null, .null, .null, .int 0, .int 0])), (dA0, .inl (cI, 6, .inl (fun _ => 0)))] := hD
  refine lv_aload_n hx hb dD_init_12 rfl (lv_at hl 0 rfl) ?_
  refine lv_bipush (v := 8) hx hb dD_init_13 (by decide) ?_
  refine nwI S hK hP hD hS hA (N' := 8) (by decide) (by decide) (by decide) (Nat.le_of_ble_eq_true rfl) (Nat.le_of_ble_eq_true rfl) dD_init_15 (fun dA1 H hP hD hS => ?_)
  have hP : va_P D cs [(dA, .inr (1, [.ref dA0, .null, .null, .null, .null, .int 0, .int 0])), (dA0, .inl (cI, 6, .inl (fun _ => 0))), (dA1, .inl (cI, 8, .inl (fun _ => 0)))] H := hP
  have hD : va_D _ [(dA, .inr (1, [.ref dA0, .null, .null, .null, .null, .int 0, .int 0])), (dA0, .inl (cI, 6, .inl (fun _ => 0))), (dA1, .inl (cI, 8, .inl (fun _ => 0)))] := hD
  refine pfF S hK hP hD hS hin 0 1 1 (v := .ref dA1) zD_t u_zD zD_k zD_n w_77 rfl rfl (by decide) rfl rfl rfl rfl rfl (Nat.le_of_ble_eq_true rfl) dD_init_17 (fun H locs hP hD hS => ?_)
  have hP : va_P D cs [(dA, .inr (1, [.ref dA0, .ref dA1, .null, .null, .null, .int 0, .int 0])), (dA0, .inl (cI, 6, .inl (fun _ => 0))), (dA1, .inl (cI, 8, .inl (fun _ => 0)))] H := hP
  have hD : va_D _ [(dA, .inr (1, [.ref dA0, .ref dA1, .null, .null, .null, .int 0, .int 0])), (dA0, .inl (cI, 6, .inl (fun _ => 0))), (dA1, .inl (cI, 8, .inl (fun _ => 0)))] := hD
  refine lv_aload_n hx hb dD_init_20 rfl (lv_at hl 0 rfl) ?_
  refine lv_bipush (v := 8) hx hb dD_init_21 (by decide) ?_
  refine nwI S hK hP hD hS hA (N' := 8) (by decide) (by decide) (by decide) (Nat.le_of_ble_eq_true rfl) (Nat.le_of_ble_eq_true rfl) dD_init_23 (fun dA2 H hP hD hS => ?_)
  have hP : va_P D cs [(dA, .inr (1, [.ref dA0, .ref dA1, .null, .null, .null, .int 0, .int 0])), (dA0, .inl (cI, 6, .inl (fun _ => 0))), (dA1, .inl (cI, 8, .inl (fun _ => 0))), (dA2, .inl (cI, 8, .inl (fun _ => 0)))] H := hP
  have hD : va_D _ [(dA, .inr (1, [.ref dA0, .ref dA1, .null, .null, .null, .int 0, .int 0])), (dA0, .inl (cI, 6, .inl (fun _ => 0))), (dA1, .inl (cI, 8, .inl (fun _ => 0))), (dA2, .inl (cI, 8, .inl (fun _ => 0)))] := hD
  refine pfF S hK hP hD hS hin 0 1 2 (v := .ref dA2) zD_t u_zD zD_k zD_n w_78 rfl rfl (by decide) rfl rfl rfl rfl rfl (Nat.le_of_ble_eq_true rfl) dD_init_25 (fun H locs hP hD hS => ?_)
  have hP : va_P D cs [(dA, .inr (1, [.ref dA0, .ref dA1, .ref dA2, .null, .null, .int 0, .int 0])), (dA0, .inl (cI, 6, .inl (fun _ => 0))), (dA1, .inl (cI, 8, .inl (fun _ => 0))), (dA2, .inl (cI, 8, .inl (fun _ => 0)))] H := hP
  have hD : va_D _ [(dA, .inr (1, [.ref dA0, .ref dA1, .ref dA2, .null, .null, .int 0, .int 0])), (dA0, .inl (cI, 6, .inl (fun _ => 0))), (dA1, .inl (cI, 8, .inl (fun _ => 0))), (dA2, .inl (cI, 8, .inl (fun _ => 0)))] := hD
  refine lv_aload_n hx hb dD_init_28 rfl (lv_at hl 0 rfl) ?_
  refine lv_bipush (v := 8) hx hb dD_init_29 (by decide) ?_
  refine nwI S hK hP hD hS hA (N' := 8) (by decide) (by decide) (by decide) (Nat.le_of_ble_eq_true rfl) (Nat.le_of_ble_eq_true rfl) dD_init_31 (fun dA3 H hP hD hS => ?_)
  have hP : va_P D cs [(dA, .inr (1, [.ref dA0, .ref dA1, .ref dA2, .null, .null, .int 0, .int 0])), (dA0, .inl (cI, 6, .inl (fun _ => 0))), (dA1, .inl (cI, 8, .inl (fun _ => 0))), (dA2, .inl (cI, 8, .inl (fun _ => 0))), (dA3, .inl (cI, 8, .inl (fun _ => 0)))] H := hP
  have hD : va_D _ [(dA, .inr (1, [.ref dA0, .ref dA1, .ref dA2, .null, .null, .int 0, .int 0])), (dA0, .inl (cI, 6, .inl (fun _ => 0))), (dA1, .inl (cI, 8, .inl (fun _ => 0))), (dA2, .inl (cI, 8, .inl (fun _ => 0))), (dA3, .inl (cI, 8, .inl (fun _ => 0)))] := hD
  refine pfF S hK hP hD hS hin 0 1 3 (v := .ref dA3) zD_t u_zD zD_k zD_n w_79 rfl rfl (by decide) rfl rfl rfl rfl rfl (Nat.le_of_ble_eq_true rfl) dD_init_33 (fun H locs hP hD hS => ?_)
  have hP : va_P D cs [(dA, .inr (1, [.ref dA0, .ref dA1, .ref dA2, .ref dA3, .null, .int 0, .int 0])), (dA0, .inl (cI, 6, .inl (fun _ => 0))), (dA1, .inl (cI, 8, .inl (fun _ => 0))), (dA2, .inl (cI, 8, .inl (fun _ => 0))), (dA3, .inl (cI, 8, .inl (fun _ => 0)))] H := hP
  have hD : va_D _ [(dA, .inr (1, [.ref dA0, .ref dA1, .ref dA2, .ref dA3, .null, .int 0, .int 0])), (dA0, .inl (cI, 6, .inl (fun _ => 0))), (dA1, .inl (cI, 8, .inl (fun _ => 0))), (dA2, .inl (cI, 8, .inl (fun _ => 0))), (dA3, .inl (cI, 8, .inl (fun _ => 0)))] := hD
  refine lv_aload_n hx hb dD_init_36 rfl (lv_at hl 0 rfl) ?_
  refine lv_bipush (v := 8) hx hb dD_init_37 (by decide) ?_
  refine nwI S hK hP hD hS hA (N' := 8) (by decide) (by decide) (by decide) (Nat.le_of_ble_eq_true rfl) (Nat.le_of_ble_eq_true rfl) dD_init_39 (fun dA4 H hP hD hS => ?_)
  have hP : va_P D cs [(dA, .inr (1, [.ref dA0, .ref dA1, .ref dA2, .ref dA3, .null, .int 0, .int 0])), (dA0, .inl (cI, 6, .inl (fun _ => 0))), (dA1, .inl (cI, 8, .inl (fun _ => 0))), (dA2, .inl (cI, 8, .inl (fun _ => 0))), (dA3, .inl (cI, 8, .inl (fun _ => 0))), (dA4, .inl (cI, 8, .inl (fun _ => 0)))] H := hP
  have hD : va_D _ [(dA, .inr (1, [.ref dA0, .ref dA1, .ref dA2, .ref dA3, .null, .int 0, .int 0])), (dA0, .inl (cI, 6, .inl (fun _ => 0))), (dA1, .inl (cI, 8, .inl (fun _ => 0))), (dA2, .inl (cI, 8, .inl (fun _ => 0))), (dA3, .inl (cI, 8, .inl (fun _ => 0))), (dA4, .inl (cI, 8, .inl (fun _ => 0)))] := hD
  refine pfF S hK hP hD hS hin 0 1 4 (v := .ref dA4) zD_t u_zD zD_k zD_n w_80 rfl rfl (by decide) rfl rfl rfl rfl rfl (Nat.le_of_ble_eq_true rfl) dD_init_41 (fun H locs hP hD hS => ?_)
  have hP : va_P D cs [(dA, .inr (1, [.ref dA0, .ref dA1, .ref dA2, .ref dA3, .ref dA4, .int 0, .int 0])), (dA0, .inl (cI, 6, .inl (fun _ => 0))), (dA1, .inl (cI, 8, .inl (fun _ => 0))), (dA2, .inl (cI, 8, .inl (fun _ => 0))), (dA3, .inl (cI, 8, .inl (fun _ => 0))), (dA4, .inl (cI, 8, .inl (fun _ => 0)))] H := hP
  have hD : va_D _ [(dA, .inr (1, [.ref dA0, .ref dA1, .ref dA2, .ref dA3, .ref dA4, .int 0, .int 0])), (dA0, .inl (cI, 6, .inl (fun _ => 0))), (dA1, .inl (cI, 8, .inl (fun _ => 0))), (dA2, .inl (cI, 8, .inl (fun _ => 0))), (dA3, .inl (cI, 8, .inl (fun _ => 0))), (dA4, .inl (cI, 8, .inl (fun _ => 0)))] := hD
  refine lv_aload_n hx hb dD_init_44 rfl (lv_at hl 0 rfl) ?_
  refine lv_iconst (v := 0) hx hb dD_init_45 (by decide) ?_
  refine pf S hK hP hD hS 0 1 5 (v := .int 0) zD_t u_zD zD_k zD_n w_81 rfl rfl (by decide) rfl rfl rfl rfl (Nat.le_of_ble_eq_true rfl) dD_init_46 (fun H locs hP hD hS => ?_)
  have hP : va_P D cs [(dA, .inr (1, [.ref dA0, .ref dA1, .ref dA2, .ref dA3, .ref dA4, .int 0, .int 0])), (dA0, .inl (cI, 6, .inl (fun _ => 0))), (dA1, .inl (cI, 8, .inl (fun _ => 0))), (dA2, .inl (cI, 8, .inl (fun _ => 0))), (dA3, .inl (cI, 8, .inl (fun _ => 0))), (dA4, .inl (cI, 8, .inl (fun _ => 0)))] H := hP
  have hD : va_D _ [(dA, .inr (1, [.ref dA0, .ref dA1, .ref dA2, .ref dA3, .ref dA4, .int 0, .int 0])), (dA0, .inl (cI, 6, .inl (fun _ => 0))), (dA1, .inl (cI, 8, .inl (fun _ => 0))), (dA2, .inl (cI, 8, .inl (fun _ => 0))), (dA3, .inl (cI, 8, .inl (fun _ => 0))), (dA4, .inl (cI, 8, .inl (fun _ => 0)))] := hD
  refine lv_aload_n hx hb dD_init_49 rfl (lv_at hl 0 rfl) ?_
  refine lv_iconst (v := 0) hx hb dD_init_50 (by decide) ?_
  refine pf S hK hP hD hS 0 1 6 (v := .int 0) zD_t u_zD zD_k zD_n w_82 rfl rfl (by decide) rfl rfl rfl rfl (Nat.le_of_ble_eq_true rfl) dD_init_51 (fun H locs hP hD hS => ?_)
  have hP : va_P D cs [(dA, .inr (1, [.ref dA0, .ref dA1, .ref dA2, .ref dA3, .ref dA4, .int 0, .int 0])), (dA0, .inl (cI, 6, .inl (fun _ => 0))), (dA1, .inl (cI, 8, .inl (fun _ => 0))), (dA2, .inl (cI, 8, .inl (fun _ => 0))), (dA3, .inl (cI, 8, .inl (fun _ => 0))), (dA4, .inl (cI, 8, .inl (fun _ => 0)))] H := hP
  have hD : va_D _ [(dA, .inr (1, [.ref dA0, .ref dA1, .ref dA2, .ref dA3, .ref dA4, .int 0, .int 0])), (dA0, .inl (cI, 6, .inl (fun _ => 0))), (dA1, .inl (cI, 8, .inl (fun _ => 0))), (dA2, .inl (cI, 8, .inl (fun _ => 0))), (dA3, .inl (cI, 8, .inl (fun _ => 0))), (dA4, .inl (cI, 8, .inl (fun _ => 0)))] := hD
  exact nu_n S hr hlocks (hP.sub (ws' := [(dA, .inr (1, [.ref dA0, .ref dA1, .ref dA2, .ref dA3, .ref dA4, .int 0, .int 0])), (dA0, .inl (cI, 6, .inl (fun _ => 0))), (dA1, .inl (cI, 8, .inl (fun _ => 0))), (dA2, .inl (cI, 8, .inl (fun _ => 0))), (dA3, .inl (cI, 8, .inl (fun _ => 0))), (dA4, .inl (cI, 8, .inl (fun _ => 0)))]) [0, 1, 2, 3, 4, 5] rfl) (hD.sub (ws' := [(dA, .inr (1, [.ref dA0, .ref dA1, .ref dA2, .ref dA3, .ref dA4, .int 0, .int 0])), (dA0, .inl (cI, 6, .inl (fun _ => 0))), (dA1, .inl (cI, 8, .inl (fun _ => 0))), (dA2, .inl (cI, 8, .inl (fun _ => 0))), (dA3, .inl (cI, 8, .inl (fun _ => 0))), (dA4, .inl (cI, 8, .inl (fun _ => 0)))]) [0, 1, 2, 3, 4, 5] rfl rfl) hS dD_init_54 ⟨dA0, dA1, dA2, dA3, dA4, rfl⟩ (Nat.le_of_ble_eq_true rfl) (Nat.le_of_ble_eq_true rfl)
set_option maxHeartbeats 4000000 in
set_option maxRecDepth 100000 in
theorem cI_init (l : Launch) (D : va_G) (cI cJ : ClassId) (iA : Nat) : Nu l yI_init bI_init 1 (rC 1 3 204) [.ref iA] D cI cJ [(iA, .inr (3, [.null, .null, .null, .int 0]))] 3 204 (fun w1 => ∃ (iA0 iA1 iA2 : Nat), w1 = [(iA, .inr (3, [.ref iA0, .ref iA1, .ref iA2, .int 0])), (iA0, .inl (cI, 12, .inl (fun _ => 0))), (iA1, .inl (cJ, 96, .inr (.inl (fun _ => 0)))), (iA2, .inl (cI, 96, .inl (fun _ => 0)))]) := by
  refine nu_of (by decide) rfl (Nat.le_of_ble_eq_true rfl) ?_
  intro p e s m below meth c ls S hr hlocks hin hN hK hP hD hl
  have hA : ∀ q : Nat, s.heap.size ≤ q → va_A [(iA, .inr (3, [.null, .null, .null, .int 0]))] s.heap.size q := fun q h => Or.inr h
  have hS : va_S (va_A [(iA, .inr (3, [.null, .null, .null, .int 0]))] s.heap.size) s.heap s.heap [] := va_S.rf
  have hx := S.1
  have hb := S.2.1
  have hl : lv_has ls 1 [(0, .ref iA)] := hl
  refine lv_aload_n hx hb dI_init_0 rfl (lv_at hl 0 rfl) ?_
  refine oi S (idx := 3) w_104 hl.1 (Nat.le_of_ble_eq_true rfl) (Nat.le_of_ble_eq_true rfl) dI_init_1 ?_
  refine lv_aload_n hx hb dI_init_4 rfl (lv_at hl 0 rfl) ?_
  refine lv_bipush (v := 12) hx hb dI_init_5 (by decide) ?_
  refine nwI S hK hP hD hS hA (N' := 12) (by decide) (by decide) (by decide) (Nat.le_of_ble_eq_true rfl) (Nat.le_of_ble_eq_true rfl) dI_init_7 (fun iA0 H hP hD hS => ?_)
  have hP : va_P D cs [(iA, .inr (3, [.null, .null, .null, .int 0])), (iA0, .inl (cI, 12, .inl (fun _ => 0)))] H := hP
  have hD : va_D _ [(iA, .inr (3, [.null, .null, .null, .int 0])), (iA0, .inl (cI, 12, .inl (fun _ => 0)))] := hD
  refine pfF S hK hP hD hS hin 0 3 0 (v := .ref iA0) zI_t u_zI zI_k zI_n w_105 rfl rfl (by decide) rfl rfl rfl rfl rfl (Nat.le_of_ble_eq_true rfl) dI_init_9 (fun H locs hP hD hS => ?_)
  have hP : va_P D cs [(iA, .inr (3, [.ref iA0, .null, .null, .int 0])), (iA0, .inl (cI, 12, .inl (fun _ => 0)))] H := hP
  have hD : va_D _ [(iA, .inr (3, [.ref iA0, .null, .null, .int 0])), (iA0, .inl (cI, 12, .inl (fun _ => 0)))] := hD
  refine lv_aload_n hx hb dI_init_12 rfl (lv_at hl 0 rfl) ?_
  refine lv_bipush (v := 96) hx hb dI_init_13 (by decide) ?_
  refine nwJ S hK hP hD hS hA (N' := 96) (by decide) (by decide) (by decide) (Nat.le_of_ble_eq_true rfl) (Nat.le_of_ble_eq_true rfl) dI_init_15 (fun iA1 H hP hD hS => ?_)
  have hP : va_P D cs [(iA, .inr (3, [.ref iA0, .null, .null, .int 0])), (iA0, .inl (cI, 12, .inl (fun _ => 0))), (iA1, .inl (cJ, 96, .inr (.inl (fun _ => 0))))] H := hP
  have hD : va_D _ [(iA, .inr (3, [.ref iA0, .null, .null, .int 0])), (iA0, .inl (cI, 12, .inl (fun _ => 0))), (iA1, .inl (cJ, 96, .inr (.inl (fun _ => 0))))] := hD
  refine pfF S hK hP hD hS hin 0 3 1 (v := .ref iA1) zI_t u_zI zI_k zI_n w_106 rfl rfl (by decide) rfl rfl rfl rfl rfl (Nat.le_of_ble_eq_true rfl) dI_init_17 (fun H locs hP hD hS => ?_)
  have hP : va_P D cs [(iA, .inr (3, [.ref iA0, .ref iA1, .null, .int 0])), (iA0, .inl (cI, 12, .inl (fun _ => 0))), (iA1, .inl (cJ, 96, .inr (.inl (fun _ => 0))))] H := hP
  have hD : va_D _ [(iA, .inr (3, [.ref iA0, .ref iA1, .null, .int 0])), (iA0, .inl (cI, 12, .inl (fun _ => 0))), (iA1, .inl (cJ, 96, .inr (.inl (fun _ => 0))))] := hD
  refine lv_aload_n hx hb dI_init_20 rfl (lv_at hl 0 rfl) ?_
  refine lv_bipush (v := 96) hx hb dI_init_21 (by decide) ?_
  refine nwI S hK hP hD hS hA (N' := 96) (by decide) (by decide) (by decide) (Nat.le_of_ble_eq_true rfl) (Nat.le_of_ble_eq_true rfl) dI_init_23 (fun iA2 H hP hD hS => ?_)
  have hP : va_P D cs [(iA, .inr (3, [.ref iA0, .ref iA1, .null, .int 0])), (iA0, .inl (cI, 12, .inl (fun _ => 0))), (iA1, .inl (cJ, 96, .inr (.inl (fun _ => 0)))), (iA2, .inl (cI, 96, .inl (fun _ => 0)))] H := hP
  have hD : va_D _ [(iA, .inr (3, [.ref iA0, .ref iA1, .null, .int 0])), (iA0, .inl (cI, 12, .inl (fun _ => 0))), (iA1, .inl (cJ, 96, .inr (.inl (fun _ => 0)))), (iA2, .inl (cI, 96, .inl (fun _ => 0)))] := hD
  refine pfF S hK hP hD hS hin 0 3 2 (v := .ref iA2) zI_t u_zI zI_k zI_n w_107 rfl rfl (by decide) rfl rfl rfl rfl rfl (Nat.le_of_ble_eq_true rfl) dI_init_25 (fun H locs hP hD hS => ?_)
  have hP : va_P D cs [(iA, .inr (3, [.ref iA0, .ref iA1, .ref iA2, .int 0])), (iA0, .inl (cI, 12, .inl (fun _ => 0))), (iA1, .inl (cJ, 96, .inr (.inl (fun _ => 0)))), (iA2, .inl (cI, 96, .inl (fun _ => 0)))] H := hP
  have hD : va_D _ [(iA, .inr (3, [.ref iA0, .ref iA1, .ref iA2, .int 0])), (iA0, .inl (cI, 12, .inl (fun _ => 0))), (iA1, .inl (cJ, 96, .inr (.inl (fun _ => 0)))), (iA2, .inl (cI, 96, .inl (fun _ => 0)))] := hD
  refine lv_aload_n hx hb dI_init_28 rfl (lv_at hl 0 rfl) ?_
  refine lv_iconst (v := 0) hx hb dI_init_29 (by decide) ?_
  refine pf S hK hP hD hS 0 3 3 (v := .int 0) zI_t u_zI zI_k zI_n w_108 rfl rfl (by decide) rfl rfl rfl rfl (Nat.le_of_ble_eq_true rfl) dI_init_30 (fun H locs hP hD hS => ?_)
  have hP : va_P D cs [(iA, .inr (3, [.ref iA0, .ref iA1, .ref iA2, .int 0])), (iA0, .inl (cI, 12, .inl (fun _ => 0))), (iA1, .inl (cJ, 96, .inr (.inl (fun _ => 0)))), (iA2, .inl (cI, 96, .inl (fun _ => 0)))] H := hP
  have hD : va_D _ [(iA, .inr (3, [.ref iA0, .ref iA1, .ref iA2, .int 0])), (iA0, .inl (cI, 12, .inl (fun _ => 0))), (iA1, .inl (cJ, 96, .inr (.inl (fun _ => 0)))), (iA2, .inl (cI, 96, .inl (fun _ => 0)))] := hD
  exact nu_n S hr hlocks (hP.sub (ws' := [(iA, .inr (3, [.ref iA0, .ref iA1, .ref iA2, .int 0])), (iA0, .inl (cI, 12, .inl (fun _ => 0))), (iA1, .inl (cJ, 96, .inr (.inl (fun _ => 0)))), (iA2, .inl (cI, 96, .inl (fun _ => 0)))]) [0, 1, 2, 3] rfl) (hD.sub (ws' := [(iA, .inr (3, [.ref iA0, .ref iA1, .ref iA2, .int 0])), (iA0, .inl (cI, 12, .inl (fun _ => 0))), (iA1, .inl (cJ, 96, .inr (.inl (fun _ => 0)))), (iA2, .inl (cI, 96, .inl (fun _ => 0)))]) [0, 1, 2, 3] rfl rfl) hS dI_init_33 ⟨iA0, iA1, iA2, rfl⟩ (Nat.le_of_ble_eq_true rfl) (Nat.le_of_ble_eq_true rfl)
set_option maxHeartbeats 4000000 in
set_option maxRecDepth 100000 in
theorem cO_init (l : Launch) (D : va_G) (cI cJ : ClassId) (oA bA : Nat) : Nu l yO_init bO_init 2 (rC 1 5 300) [.ref oA, .ref bA] D cI cJ [(oA, .inr (4, [.null, .null, .null, .null, .null, .null, .int 0, .int 0, .int 0]))] 5 300 (fun w1 => ∃ (oA0 oA1 oA2 oA3 oA4 : Nat), w1 = [(oA, .inr (4, [.ref bA, .ref oA0, .ref oA1, .ref oA2, .ref oA3, .ref oA4, .int 0, .int 0, .int 0])), (oA0, .inl (cI, 60, .inl (fun _ => 0))), (oA1, .inl (cI, 60, .inl (fun _ => 0))), (oA2, .inl (cI, 60, .inl (fun _ => 0))), (oA3, .inl (cI, 60, .inl (fun _ => 0))), (oA4, .inl (cI, 60, .inl (fun _ => 0)))]) := by
  refine nu_of (by decide) rfl (Nat.le_of_ble_eq_true rfl) ?_
  intro p e s m below meth c ls S hr hlocks hin hN hK hP hD hl
  have hA : ∀ q : Nat, s.heap.size ≤ q → va_A [(oA, .inr (4, [.null, .null, .null, .null, .null, .null, .int 0, .int 0, .int 0]))] s.heap.size q := fun q h => Or.inr h
  have hS : va_S (va_A [(oA, .inr (4, [.null, .null, .null, .null, .null, .null, .int 0, .int 0, .int 0]))] s.heap.size) s.heap s.heap [] := va_S.rf
  have hx := S.1
  have hb := S.2.1
  have hl : lv_has ls 2 [(0, .ref oA), (1, .ref bA)] := hl
  refine lv_aload_n hx hb dO_init_0 rfl (lv_at hl 0 rfl) ?_
  refine oi S (idx := 3) w_161 hl.1 (Nat.le_of_ble_eq_true rfl) (Nat.le_of_ble_eq_true rfl) dO_init_1 ?_
  refine lv_aload_n hx hb dO_init_4 rfl (lv_at hl 0 rfl) ?_
  refine lv_bipush (v := 60) hx hb dO_init_5 (by decide) ?_
  refine nwI S hK hP hD hS hA (N' := 60) (by decide) (by decide) (by decide) (Nat.le_of_ble_eq_true rfl) (Nat.le_of_ble_eq_true rfl) dO_init_7 (fun oA0 H hP hD hS => ?_)
  have hP : va_P D cs [(oA, .inr (4, [.null, .null, .null, .null, .null, .null, .int 0, .int 0, .int 0])), (oA0, .inl (cI, 60, .inl (fun _ => 0)))] H := hP
  have hD : va_D _ [(oA, .inr (4, [.null, .null, .null, .null, .null, .null, .int 0, .int 0, .int 0])), (oA0, .inl (cI, 60, .inl (fun _ => 0)))] := hD
  refine pfF S hK hP hD hS hin 0 4 1 (v := .ref oA0) zO_t u_zO zO_k zO_n w_163 rfl rfl (by decide) rfl rfl rfl rfl rfl (Nat.le_of_ble_eq_true rfl) dO_init_9 (fun H locs hP hD hS => ?_)
  have hP : va_P D cs [(oA, .inr (4, [.null, .ref oA0, .null, .null, .null, .null, .int 0, .int 0, .int 0])), (oA0, .inl (cI, 60, .inl (fun _ => 0)))] H := hP
  have hD : va_D _ [(oA, .inr (4, [.null, .ref oA0, .null, .null, .null, .null, .int 0, .int 0, .int 0])), (oA0, .inl (cI, 60, .inl (fun _ => 0)))] := hD
  refine lv_aload_n hx hb dO_init_12 rfl (lv_at hl 0 rfl) ?_
  refine lv_bipush (v := 60) hx hb dO_init_13 (by decide) ?_
  refine nwI S hK hP hD hS hA (N' := 60) (by decide) (by decide) (by decide) (Nat.le_of_ble_eq_true rfl) (Nat.le_of_ble_eq_true rfl) dO_init_15 (fun oA1 H hP hD hS => ?_)
  have hP : va_P D cs [(oA, .inr (4, [.null, .ref oA0, .null, .null, .null, .null, .int 0, .int 0, .int 0])), (oA0, .inl (cI, 60, .inl (fun _ => 0))), (oA1, .inl (cI, 60, .inl (fun _ => 0)))] H := hP
  have hD : va_D _ [(oA, .inr (4, [.null, .ref oA0, .null, .null, .null, .null, .int 0, .int 0, .int 0])), (oA0, .inl (cI, 60, .inl (fun _ => 0))), (oA1, .inl (cI, 60, .inl (fun _ => 0)))] := hD
  refine pfF S hK hP hD hS hin 0 4 2 (v := .ref oA1) zO_t u_zO zO_k zO_n w_164 rfl rfl (by decide) rfl rfl rfl rfl rfl (Nat.le_of_ble_eq_true rfl) dO_init_17 (fun H locs hP hD hS => ?_)
  have hP : va_P D cs [(oA, .inr (4, [.null, .ref oA0, .ref oA1, .null, .null, .null, .int 0, .int 0, .int 0])), (oA0, .inl (cI, 60, .inl (fun _ => 0))), (oA1, .inl (cI, 60, .inl (fun _ => 0)))] H := hP
  have hD : va_D _ [(oA, .inr (4, [.null, .ref oA0, .ref oA1, .null, .null, .null, .int 0, .int 0, .int 0])), (oA0, .inl (cI, 60, .inl (fun _ => 0))), (oA1, .inl (cI, 60, .inl (fun _ => 0)))] := hD
  refine lv_aload_n hx hb dO_init_20 rfl (lv_at hl 0 rfl) ?_
  refine lv_bipush (v := 60) hx hb dO_init_21 (by decide) ?_
  refine nwI S hK hP hD hS hA (N' := 60) (by decide) (by decide) (by decide) (Nat.le_of_ble_eq_true rfl) (Nat.le_of_ble_eq_true rfl) dO_init_23 (fun oA2 H hP hD hS => ?_)
  have hP : va_P D cs [(oA, .inr (4, [.null, .ref oA0, .ref oA1, .null, .null, .null, .int 0, .int 0, .int 0])), (oA0, .inl (cI, 60, .inl (fun _ => 0))), (oA1, .inl (cI, 60, .inl (fun _ => 0))), (oA2, .inl (cI, 60, .inl (fun _ => 0)))] H := hP
  have hD : va_D _ [(oA, .inr (4, [.null, .ref oA0, .ref oA1, .null, .null, .null, .int 0, .int 0, .int 0])), (oA0, .inl (cI, 60, .inl (fun _ => 0))), (oA1, .inl (cI, 60, .inl (fun _ => 0))), (oA2, .inl (cI, 60, .inl (fun _ => 0)))] := hD
  refine pfF S hK hP hD hS hin 0 4 3 (v := .ref oA2) zO_t u_zO zO_k zO_n w_165 rfl rfl (by decide) rfl rfl rfl rfl rfl (Nat.le_of_ble_eq_true rfl) dO_init_25 (fun H locs hP hD hS => ?_)
  have hP : va_P D cs [(oA, .inr (4, [.null, .ref oA0, .ref oA1, .ref oA2, .null, .null, .int 0, .int 0, .int 0])), (oA0, .inl (cI, 60, .inl (fun _ => 0))), (oA1, .inl (cI, 60, .inl (fun _ => 0))), (oA2, .inl (cI, 60, .inl (fun _ => 0)))] H := hP
  have hD : va_D _ [(oA, .inr (4, [.null, .ref oA0, .ref oA1, .ref oA2, .null, .null, .int 0, .int 0, .int 0])), (oA0, .inl (cI, 60, .inl (fun _ => 0))), (oA1, .inl (cI, 60, .inl (fun _ => 0))), (oA2, .inl (cI, 60, .inl (fun _ => 0)))] := hD
  refine lv_aload_n hx hb dO_init_28 rfl (lv_at hl 0 rfl) ?_
  refine lv_bipush (v := 60) hx hb dO_init_29 (by decide) ?_
  refine nwI S hK hP hD hS hA (N' := 60) (by decide) (by decide) (by decide) (Nat.le_of_ble_eq_true rfl) (Nat.le_of_ble_eq_true rfl) dO_init_31 (fun oA3 H hP hD hS => ?_)
  have hP : va_P D cs [(oA, .inr (4, [.null, .ref oA0, .ref oA1, .ref oA2, .null, .null, .int 0, .int 0, .int 0])), (oA0, .inl (cI, 60, .inl (fun _ => 0))), (oA1, .inl (cI, 60, .inl (fun _ => 0))), (oA2, .inl (cI, 60, .inl (fun _ => 0))), (oA3, .inl (cI, 60, .inl (fun _ => 0)))] H := hP
  have hD : va_D _ [(oA, .inr (4, [.null, .ref oA0, .ref oA1, .ref oA2, .null, .null, .int 0, .int 0, .int 0])), (oA0, .inl (cI, 60, .inl (fun _ => 0))), (oA1, .inl (cI, 60, .inl (fun _ => 0))), (oA2, .inl (cI, 60, .inl (fun _ => 0))), (oA3, .inl (cI, 60, .inl (fun _ => 0)))] := hD
  refine pfF S hK hP hD hS hin 0 4 4 (v := .ref oA3) zO_t u_zO zO_k zO_n w_166 rfl rfl (by decide) rfl rfl rfl rfl rfl (Nat.le_of_ble_eq_true rfl) dO_init_33 (fun H locs hP hD hS => ?_)
  have hP : va_P D cs [(oA, .inr (4, [.null, .ref oA0, .ref oA1, .ref oA2, .ref oA3, .null, .int 0, .int 0, .int 0])), (oA0, .inl (cI, 60, .inl (fun _ => 0))), (oA1, .inl (cI, 60, .inl (fun _ => 0))), (oA2, .inl (cI, 60, .inl (fun _ => 0))), (oA3, .inl (cI, 60, .inl (fun _ => 0)))] H := hP
  have hD : va_D _ [(oA, .inr (4, [.null, .ref oA0, .ref oA1, .ref oA2, .ref oA3, .null, .int 0, .int 0, .int 0])), (oA0, .inl (cI, 60, .inl (fun _ => 0))), (oA1, .inl (cI, 60, .inl (fun _ => 0))), (oA2, .inl (cI, 60, .inl (fun _ => 0))), (oA3, .inl (cI, 60, .inl (fun _ => 0)))] := hD
  refine lv_aload_n hx hb dO_init_36 rfl (lv_at hl 0 rfl) ?_
  refine lv_bipush (v := 60) hx hb dO_init_37 (by decide) ?_
  refine nwI S hK hP hD hS hA (N' := 60) (by decide) (by decide) (by decide) (Nat.le_of_ble_eq_true rfl) (Nat.le_of_ble_eq_true rfl) dO_init_39 (fun oA4 H hP hD hS => ?_)
  have hP : va_P D cs [(oA, .inr (4, [.null, .ref oA0, .ref oA1, .ref oA2, .ref oA3, .null, .int 0, .int 0, .int 0])), (oA0, .inl (cI, 60, .inl (fun _ => 0))), (oA1, .inl (cI, 60, .inl (fun _ => 0))), (oA2, .inl (cI, 60, .inl (fun _ => 0))), (oA3, .inl (cI, 60, .inl (fun _ => 0))), (oA4, .inl (cI, 60, .inl (fun _ => 0)))] H := hP
  have hD : va_D _ [(oA, .inr (4, [.null, .ref oA0, .ref oA1, .ref oA2, .ref oA3, .null, .int 0, .int 0, .int 0])), (oA0, .inl (cI, 60, .inl (fun _ => 0))), (oA1, .inl (cI, 60, .inl (fun _ => 0))), (oA2, .inl (cI, 60, .inl (fun _ => 0))), (oA3, .inl (cI, 60, .inl (fun _ => 0))), (oA4, .inl (cI, 60, .inl (fun _ => 0)))] := hD
  refine pfF S hK hP hD hS hin 0 4 5 (v := .ref oA4) zO_t u_zO zO_k zO_n w_167 rfl rfl (by decide) rfl rfl rfl rfl rfl (Nat.le_of_ble_eq_true rfl) dO_init_41 (fun H locs hP hD hS => ?_)
  have hP : va_P D cs [(oA, .inr (4, [.null, .ref oA0, .ref oA1, .ref oA2, .ref oA3, .ref oA4, .int 0, .int 0, .int 0])), (oA0, .inl (cI, 60, .inl (fun _ => 0))), (oA1, .inl (cI, 60, .inl (fun _ => 0))), (oA2, .inl (cI, 60, .inl (fun _ => 0))), (oA3, .inl (cI, 60, .inl (fun _ => 0))), (oA4, .inl (cI, 60, .inl (fun _ => 0)))] H := hP
  have hD : va_D _ [(oA, .inr (4, [.null, .ref oA0, .ref oA1, .ref oA2, .ref oA3, .ref oA4, .int 0, .int 0, .int 0])), (oA0, .inl (cI, 60, .inl (fun _ => 0))), (oA1, .inl (cI, 60, .inl (fun _ => 0))), (oA2, .inl (cI, 60, .inl (fun _ => 0))), (oA3, .inl (cI, 60, .inl (fun _ => 0))), (oA4, .inl (cI, 60, .inl (fun _ => 0)))] := hD
  refine lv_aload_n hx hb dO_init_44 rfl (lv_at hl 0 rfl) ?_
  refine lv_iconst (v := 0) hx hb dO_init_45 (by decide) ?_
  refine pf S hK hP hD hS 0 4 6 (v := .int 0) zO_t u_zO zO_k zO_n w_168 rfl rfl (by decide) rfl rfl rfl rfl (Nat.le_of_ble_eq_true rfl) dO_init_46 (fun H locs hP hD hS => ?_)
  have hP : va_P D cs [(oA, .inr (4, [.null, .ref oA0, .ref oA1, .ref oA2, .ref oA3, .ref oA4, .int 0, .int 0, .int 0])), (oA0, .inl (cI, 60, .inl (fun _ => 0))), (oA1, .inl (cI, 60, .inl (fun _ => 0))), (oA2, .inl (cI, 60, .inl (fun _ => 0))), (oA3, .inl (cI, 60, .inl (fun _ => 0))), (oA4, .inl (cI, 60, .inl (fun _ => 0)))] H := hP
  have hD : va_D _ [(oA, .inr (4, [.null, .ref oA0, .ref oA1, .ref oA2, .ref oA3, .ref oA4, .int 0, .int 0, .int 0])), (oA0, .inl (cI, 60, .inl (fun _ => 0))), (oA1, .inl (cI, 60, .inl (fun _ => 0))), (oA2, .inl (cI, 60, .inl (fun _ => 0))), (oA3, .inl (cI, 60, .inl (fun _ => 0))), (oA4, .inl (cI, 60, .inl (fun _ => 0)))] := hD
  refine lv_aload_n hx hb dO_init_49 rfl (lv_at hl 0 rfl) ?_
  refine lv_iconst (v := 0) hx hb dO_init_50 (by decide) ?_
  refine pf S hK hP hD hS 0 4 7 (v := .int 0) zO_t u_zO zO_k zO_n w_171 rfl rfl (by decide) rfl rfl rfl rfl (Nat.le_of_ble_eq_true rfl) dO_init_51 (fun H locs hP hD hS => ?_)
  have hP : va_P D cs [(oA, .inr (4, [.null, .ref oA0, .ref oA1, .ref oA2, .ref oA3, .ref oA4, .int 0, .int 0, .int 0])), (oA0, .inl (cI, 60, .inl (fun _ => 0))), (oA1, .inl (cI, 60, .inl (fun _ => 0))), (oA2, .inl (cI, 60, .inl (fun _ => 0))), (oA3, .inl (cI, 60, .inl (fun _ => 0))), (oA4, .inl (cI, 60, .inl (fun _ => 0)))] H := hP
  have hD : va_D _ [(oA, .inr (4, [.null, .ref oA0, .ref oA1, .ref oA2, .ref oA3, .ref oA4, .int 0, .int 0, .int 0])), (oA0, .inl (cI, 60, .inl (fun _ => 0))), (oA1, .inl (cI, 60, .inl (fun _ => 0))), (oA2, .inl (cI, 60, .inl (fun _ => 0))), (oA3, .inl (cI, 60, .inl (fun _ => 0))), (oA4, .inl (cI, 60, .inl (fun _ => 0)))] := hD
  refine lv_aload_n hx hb dO_init_54 rfl (lv_at hl 0 rfl) ?_
  refine lv_iconst (v := 0) hx hb dO_init_55 (by decide) ?_
  refine pf S hK hP hD hS 0 4 8 (v := .int 0) zO_t u_zO zO_k zO_n w_174 rfl rfl (by decide) rfl rfl rfl rfl (Nat.le_of_ble_eq_true rfl) dO_init_56 (fun H locs hP hD hS => ?_)
  have hP : va_P D cs [(oA, .inr (4, [.null, .ref oA0, .ref oA1, .ref oA2, .ref oA3, .ref oA4, .int 0, .int 0, .int 0])), (oA0, .inl (cI, 60, .inl (fun _ => 0))), (oA1, .inl (cI, 60, .inl (fun _ => 0))), (oA2, .inl (cI, 60, .inl (fun _ => 0))), (oA3, .inl (cI, 60, .inl (fun _ => 0))), (oA4, .inl (cI, 60, .inl (fun _ => 0)))] H := hP
  have hD : va_D _ [(oA, .inr (4, [.null, .ref oA0, .ref oA1, .ref oA2, .ref oA3, .ref oA4, .int 0, .int 0, .int 0])), (oA0, .inl (cI, 60, .inl (fun _ => 0))), (oA1, .inl (cI, 60, .inl (fun _ => 0))), (oA2, .inl (cI, 60, .inl (fun _ => 0))), (oA3, .inl (cI, 60, .inl (fun _ => 0))), (oA4, .inl (cI, 60, .inl (fun _ => 0)))] := hD
  refine lv_aload_n hx hb dO_init_59 rfl (lv_at hl 0 rfl) ?_
  refine lv_aload_n hx hb dO_init_60 rfl (lv_at hl 1 rfl) ?_
  refine pfF S hK hP hD hS hin 0 4 0 (v := .ref bA) zO_t u_zO zO_k zO_n w_162 rfl rfl (by decide) rfl rfl rfl rfl rfl (Nat.le_of_ble_eq_true rfl) dO_init_61 (fun H locs hP hD hS => ?_)
  have hP : va_P D cs [(oA, .inr (4, [.ref bA, .ref oA0, .ref oA1, .ref oA2, .ref oA3, .ref oA4, .int 0, .int 0, .int 0])), (oA0, .inl (cI, 60, .inl (fun _ => 0))), (oA1, .inl (cI, 60, .inl (fun _ => 0))), (oA2, .inl (cI, 60, .inl (fun _ => 0))), (oA3, .inl (cI, 60, .inl (fun _ => 0))), (oA4, .inl (cI, 60, .inl (fun _ => 0)))] H := hP
  have hD : va_D _ [(oA, .inr (4, [.ref bA, .ref oA0, .ref oA1, .ref oA2, .ref oA3, .ref oA4, .int 0, .int 0, .int 0])), (oA0, .inl (cI, 60, .inl (fun _ => 0))), (oA1, .inl (cI, 60, .inl (fun _ => 0))), (oA2, .inl (cI, 60, .inl (fun _ => 0))), (oA3, .inl (cI, 60, .inl (fun _ => 0))), (oA4, .inl (cI, 60, .inl (fun _ => 0)))] := hD
  exact nu_n S hr hlocks (hP.sub (ws' := [(oA, .inr (4, [.ref bA, .ref oA0, .ref oA1, .ref oA2, .ref oA3, .ref oA4, .int 0, .int 0, .int 0])), (oA0, .inl (cI, 60, .inl (fun _ => 0))), (oA1, .inl (cI, 60, .inl (fun _ => 0))), (oA2, .inl (cI, 60, .inl (fun _ => 0))), (oA3, .inl (cI, 60, .inl (fun _ => 0))), (oA4, .inl (cI, 60, .inl (fun _ => 0)))]) [0, 1, 2, 3, 4, 5] rfl) (hD.sub (ws' := [(oA, .inr (4, [.ref bA, .ref oA0, .ref oA1, .ref oA2, .ref oA3, .ref oA4, .int 0, .int 0, .int 0])), (oA0, .inl (cI, 60, .inl (fun _ => 0))), (oA1, .inl (cI, 60, .inl (fun _ => 0))), (oA2, .inl (cI, 60, .inl (fun _ => 0))), (oA3, .inl (cI, 60, .inl (fun _ => 0))), (oA4, .inl (cI, 60, .inl (fun _ => 0)))]) [0, 1, 2, 3, 4, 5] rfl rfl) hS dO_init_64 ⟨oA0, oA1, oA2, oA3, oA4, rfl⟩ (Nat.le_of_ble_eq_true rfl) (Nat.le_of_ble_eq_true rfl)
set_option maxHeartbeats 4000000 in
set_option maxRecDepth 100000 in
theorem cF_init (l : Launch) (D : va_G) (cI cJ : ClassId) (fA dA bA oA : Nat) : Nu l yF_init bF_init 4 (rC 1 2 60) [.ref fA, .ref dA, .ref bA, .ref oA] D cI cJ [(fA, .inr (2, [.null, .null, .null, .null, .null]))] 2 60 (fun w1 => ∃ (fA0 fA1 : Nat), w1 = [(fA, .inr (2, [.ref dA, .ref bA, .ref oA, .ref fA0, .ref fA1])), (fA0, .inl (cI, 30, .inl (fun _ => 0))), (fA1, .inl (cI, 30, .inl (fun _ => 0)))]) := by
  refine nu_of (by decide) rfl (Nat.le_of_ble_eq_true rfl) ?_
  intro p e s m below meth c ls S hr hlocks hin hN hK hP hD hl
  have hA : ∀ q : Nat, s.heap.size ≤ q → va_A [(fA, .inr (2, [.null, .null, .null, .null, .null]))] s.heap.size q := fun q h => Or.inr h
  have hS : va_S (va_A [(fA, .inr (2, [.null, .null, .null, .null, .null]))] s.heap.size) s.heap s.heap [] := va_S.rf
  have hx := S.1
  have hb := S.2.1
  have hl : lv_has ls 4 [(0, .ref fA), (1, .ref dA), (2, .ref bA), (3, .ref oA)] := hl
  refine lv_aload_n hx hb dF_init_0 rfl (lv_at hl 0 rfl) ?_
  refine oi S (idx := 3) w_200 hl.1 (Nat.le_of_ble_eq_true rfl) (Nat.le_of_ble_eq_true rfl) dF_init_1 ?_
  refine lv_aload_n hx hb dF_init_4 rfl (lv_at hl 0 rfl) ?_
  refine lv_bipush (v := 30) hx hb dF_init_5 (by decide) ?_
  refine nwI S hK hP hD hS hA (N' := 30) (by decide) (by decide) (by decide) (Nat.le_of_ble_eq_true rfl) (Nat.le_of_ble_eq_true rfl) dF_init_7 (fun fA0 H hP hD hS => ?_)
  have hP : va_P D cs [(fA, .inr (2, [.null, .null, .null, .null, .null])), (fA0, .inl (cI, 30, .inl (fun _ => 0)))] H := hP
  have hD : va_D _ [(fA, .inr (2, [.null, .null, .null, .null, .null])), (fA0, .inl (cI, 30, .inl (fun _ => 0)))] := hD
  refine pfF S hK hP hD hS hin 0 2 3 (v := .ref fA0) zF_t u_zF zF_k zF_n w_204 rfl rfl (by decide) rfl rfl rfl rfl rfl (Nat.le_of_ble_eq_true rfl) dF_init_9 (fun H locs hP hD hS => ?_)
  have hP : va_P D cs [(fA, .inr (2, [.null, .null, .null, .ref fA0, .null])), (fA0, .inl (cI, 30, .inl (fun _ => 0)))] H := hP
  have hD : va_D _ [(fA, .inr (2, [.null, .null, .null, .ref fA0, .null])), (fA0, .inl (cI, 30, .inl (fun _ => 0)))] := hD
  refine lv_aload_n hx hb dF_init_12 rfl (lv_at hl 0 rfl) ?_
  refine lv_bipush (v := 30) hx hb dF_init_13 (by decide) ?_
  refine nwI S hK hP hD hS hA (N' := 30) (by decide) (by decide) (by decide) (Nat.le_of_ble_eq_true rfl) (Nat.le_of_ble_eq_true rfl) dF_init_15 (fun fA1 H hP hD hS => ?_)
  have hP : va_P D cs [(fA, .inr (2, [.null, .null, .null, .ref fA0, .null])), (fA0, .inl (cI, 30, .inl (fun _ => 0))), (fA1, .inl (cI, 30, .inl (fun _ => 0)))] H := hP
  have hD : va_D _ [(fA, .inr (2, [.null, .null, .null, .ref fA0, .null])), (fA0, .inl (cI, 30, .inl (fun _ => 0))), (fA1, .inl (cI, 30, .inl (fun _ => 0)))] := hD
  refine pfF S hK hP hD hS hin 0 2 4 (v := .ref fA1) zF_t u_zF zF_k zF_n w_205 rfl rfl (by decide) rfl rfl rfl rfl rfl (Nat.le_of_ble_eq_true rfl) dF_init_17 (fun H locs hP hD hS => ?_)
  have hP : va_P D cs [(fA, .inr (2, [.null, .null, .null, .ref fA0, .ref fA1])), (fA0, .inl (cI, 30, .inl (fun _ => 0))), (fA1, .inl (cI, 30, .inl (fun _ => 0)))] H := hP
  have hD : va_D _ [(fA, .inr (2, [.null, .null, .null, .ref fA0, .ref fA1])), (fA0, .inl (cI, 30, .inl (fun _ => 0))), (fA1, .inl (cI, 30, .inl (fun _ => 0)))] := hD
  refine lv_aload_n hx hb dF_init_20 rfl (lv_at hl 0 rfl) ?_
  refine lv_aload_n hx hb dF_init_21 rfl (lv_at hl 1 rfl) ?_
  refine pfF S hK hP hD hS hin 0 2 0 (v := .ref dA) zF_t u_zF zF_k zF_n w_201 rfl rfl (by decide) rfl rfl rfl rfl rfl (Nat.le_of_ble_eq_true rfl) dF_init_22 (fun H locs hP hD hS => ?_)
  have hP : va_P D cs [(fA, .inr (2, [.ref dA, .null, .null, .ref fA0, .ref fA1])), (fA0, .inl (cI, 30, .inl (fun _ => 0))), (fA1, .inl (cI, 30, .inl (fun _ => 0)))] H := hP
  have hD : va_D _ [(fA, .inr (2, [.ref dA, .null, .null, .ref fA0, .ref fA1])), (fA0, .inl (cI, 30, .inl (fun _ => 0))), (fA1, .inl (cI, 30, .inl (fun _ => 0)))] := hD
  refine lv_aload_n hx hb dF_init_25 rfl (lv_at hl 0 rfl) ?_
  refine lv_aload_n hx hb dF_init_26 rfl (lv_at hl 2 rfl) ?_
  refine pfF S hK hP hD hS hin 0 2 1 (v := .ref bA) zF_t u_zF zF_k zF_n w_202 rfl rfl (by decide) rfl rfl rfl rfl rfl (Nat.le_of_ble_eq_true rfl) dF_init_27 (fun H locs hP hD hS => ?_)
  have hP : va_P D cs [(fA, .inr (2, [.ref dA, .ref bA, .null, .ref fA0, .ref fA1])), (fA0, .inl (cI, 30, .inl (fun _ => 0))), (fA1, .inl (cI, 30, .inl (fun _ => 0)))] H := hP
  have hD : va_D _ [(fA, .inr (2, [.ref dA, .ref bA, .null, .ref fA0, .ref fA1])), (fA0, .inl (cI, 30, .inl (fun _ => 0))), (fA1, .inl (cI, 30, .inl (fun _ => 0)))] := hD
  refine lv_aload_n hx hb dF_init_30 rfl (lv_at hl 0 rfl) ?_
  refine lv_aload_n hx hb dF_init_31 rfl (lv_at hl 3 rfl) ?_
  refine pfF S hK hP hD hS hin 0 2 2 (v := .ref oA) zF_t u_zF zF_k zF_n w_203 rfl rfl (by decide) rfl rfl rfl rfl rfl (Nat.le_of_ble_eq_true rfl) dF_init_32 (fun H locs hP hD hS => ?_)
  have hP : va_P D cs [(fA, .inr (2, [.ref dA, .ref bA, .ref oA, .ref fA0, .ref fA1])), (fA0, .inl (cI, 30, .inl (fun _ => 0))), (fA1, .inl (cI, 30, .inl (fun _ => 0)))] H := hP
  have hD : va_D _ [(fA, .inr (2, [.ref dA, .ref bA, .ref oA, .ref fA0, .ref fA1])), (fA0, .inl (cI, 30, .inl (fun _ => 0))), (fA1, .inl (cI, 30, .inl (fun _ => 0)))] := hD
  exact nu_n S hr hlocks (hP.sub (ws' := [(fA, .inr (2, [.ref dA, .ref bA, .ref oA, .ref fA0, .ref fA1])), (fA0, .inl (cI, 30, .inl (fun _ => 0))), (fA1, .inl (cI, 30, .inl (fun _ => 0)))]) [0, 1, 2] rfl) (hD.sub (ws' := [(fA, .inr (2, [.ref dA, .ref bA, .ref oA, .ref fA0, .ref fA1])), (fA0, .inl (cI, 30, .inl (fun _ => 0))), (fA1, .inl (cI, 30, .inl (fun _ => 0)))]) [0, 1, 2] rfl rfl) hS dF_init_35 ⟨fA0, fA1, rfl⟩ (Nat.le_of_ble_eq_true rfl) (Nat.le_of_ble_eq_true rfl)
set_option maxHeartbeats 4000000 in
set_option maxRecDepth 100000 in
theorem cW_init (l : Launch) (D : va_G) (cI cJ : ClassId) (xA dA iA : Nat) : Nu l yW_init bW_init 3 (rC 2 2 122) [.ref xA, .ref dA, .ref iA] D cI cJ [(xA, .inr (5, [.null, .null, .null]))] 2 122 (fun w1 => ∃ (wA wA0 : Nat), w1 = [(xA, .inr (5, [.ref dA, .ref iA, .ref wA])), (wA, .inr (0, [.ref wA0, .int 0])), (wA0, .inl (cI, 120, .inl (fun _ => 0)))]) := by
  refine nu_of (by decide) rfl (Nat.le_of_ble_eq_true rfl) ?_
  intro p e s m below meth c ls S hr hlocks hin hN hK hP hD hl
  have hA : ∀ q : Nat, s.heap.size ≤ q → va_A [(xA, .inr (5, [.null, .null, .null]))] s.heap.size q := fun q h => Or.inr h
  have hS : va_S (va_A [(xA, .inr (5, [.null, .null, .null]))] s.heap.size) s.heap s.heap [] := va_S.rf
  have hx := S.1
  have hb := S.2.1
  have hl : lv_has ls 3 [(0, .ref xA), (1, .ref dA), (2, .ref iA)] := hl
  refine lv_aload_n hx hb dW_init_0 rfl (lv_at hl 0 rfl) ?_
  refine oi S (idx := 3) w_142 hl.1 (Nat.le_of_ble_eq_true rfl) (Nat.le_of_ble_eq_true rfl) dW_init_1 ?_
  refine lv_aload_n hx hb dW_init_4 rfl (lv_at hl 0 rfl) ?_
  refine lv_aload_n hx hb dW_init_5 rfl (lv_at hl 1 rfl) ?_
  refine pfF S hK hP hD hS hin 0 5 0 (v := .ref dA) zW_t u_zW zW_k zW_n w_145 rfl rfl (by decide) rfl rfl rfl rfl rfl (Nat.le_of_ble_eq_true rfl) dW_init_6 (fun H locs hP hD hS => ?_)
  have hP : va_P D cs [(xA, .inr (5, [.ref dA, .null, .null]))] H := hP
  have hD : va_D _ [(xA, .inr (5, [.ref dA, .null, .null]))] := hD
  refine lv_aload_n hx hb dW_init_9 rfl (lv_at hl 0 rfl) ?_
  refine lv_aload_n hx hb dW_init_10 rfl (lv_at hl 2 rfl) ?_
  refine pfF S hK hP hD hS hin 0 5 1 (v := .ref iA) zW_t u_zW zW_k zW_n w_146 rfl rfl (by decide) rfl rfl rfl rfl rfl (Nat.le_of_ble_eq_true rfl) dW_init_11 (fun H locs hP hD hS => ?_)
  have hP : va_P D cs [(xA, .inr (5, [.ref dA, .ref iA, .null]))] H := hP
  have hD : va_D _ [(xA, .inr (5, [.ref dA, .ref iA, .null]))] := hD
  refine lv_aload_n hx hb dW_init_14 rfl (lv_at hl 0 rfl) ?_
  refine nwo S hK hP hD hS hA 0 (fs := [.null, .int 0]) zB_t u_zB zB_k w_143 w_122 w_55 rfl (fun j hj => by rcases (show j = 0 ∨ j = 1 by omega) with rfl | rfl <;> rfl) (Nat.le_of_ble_eq_true rfl) (Nat.le_of_ble_eq_true rfl) dW_init_15 (fun wA H hP hD hS => ?_)
  have hP : va_P D cs [(xA, .inr (5, [.ref dA, .ref iA, .null])), (wA, .inr (0, [.null, .int 0]))] H := hP
  have hD : va_D _ [(xA, .inr (5, [.ref dA, .ref iA, .null])), (wA, .inr (0, [.null, .int 0]))] := hD
  refine lv_dup hx hb dW_init_18 rfl ?_
  refine nu_iN (host := "PropertyDocuments") S hN hK hP hD hS hA (rest := [.ref wA, .ref xA]) (k := 0) (wr := [(xA, .inr (5, [.ref dA, .ref iA, .null]))]) (cB_init l D cI cJ wA) rfl n_8 w_124 w_55 w_125 ⟨by decide +kernel, by decide +kernel, by decide +kernel⟩ [1] [0] rfl rfl rfl rfl (by decide) ⟨rfl, rfl⟩ ⟨Nat.le_of_ble_eq_true rfl, Nat.le_of_ble_eq_true rfl⟩ rfl hl.1 (Nat.le_of_ble_eq_true rfl) ⟨Nat.le_of_ble_eq_true rfl, Nat.le_of_ble_eq_true rfl⟩ dW_init_19 rfl (fun w1 H locs hp hP hD hS => ?_)
  obtain ⟨wA0, rfl⟩ := hp
  have hP : va_P D cs [(xA, .inr (5, [.ref dA, .ref iA, .null])), (wA, .inr (0, [.ref wA0, .int 0])), (wA0, .inl (cI, 120, .inl (fun _ => 0)))] H := hP
  have hD : va_D _ [(xA, .inr (5, [.ref dA, .ref iA, .null])), (wA, .inr (0, [.ref wA0, .int 0])), (wA0, .inl (cI, 120, .inl (fun _ => 0)))] := hD
  refine pfF S hK hP hD hS hin 0 5 2 (v := .ref wA) zW_t u_zW zW_k zW_n w_147 rfl rfl (by decide) rfl rfl rfl rfl rfl (Nat.le_of_ble_eq_true rfl) dW_init_22 (fun H locs hP hD hS => ?_)
  have hP : va_P D cs [(xA, .inr (5, [.ref dA, .ref iA, .ref wA])), (wA, .inr (0, [.ref wA0, .int 0])), (wA0, .inl (cI, 120, .inl (fun _ => 0)))] H := hP
  have hD : va_D _ [(xA, .inr (5, [.ref dA, .ref iA, .ref wA])), (wA, .inr (0, [.ref wA0, .int 0])), (wA0, .inl (cI, 120, .inl (fun _ => 0)))] := hD
  exact nu_n S hr hlocks (hP.sub (ws' := [(xA, .inr (5, [.ref dA, .ref iA, .ref wA])), (wA, .inr (0, [.ref wA0, .int 0])), (wA0, .inl (cI, 120, .inl (fun _ => 0)))]) [0, 1, 2] rfl) (hD.sub (ws' := [(xA, .inr (5, [.ref dA, .ref iA, .ref wA])), (wA, .inr (0, [.ref wA0, .int 0])), (wA0, .inl (cI, 120, .inl (fun _ => 0)))]) [0, 1, 2] rfl rfl) hS dW_init_25 ⟨wA, wA0, rfl⟩ (Nat.le_of_ble_eq_true rfl) (Nat.le_of_ble_eq_true rfl)
set_option maxHeartbeats 4000000 in
set_option maxRecDepth 100000 in
theorem cP_init (l : Launch) (D : va_G) (cI cJ : ClassId) (pA : Nat) : Nu l yP_init bP_init 1 (rC 3 24 874) [.ref pA] D cI cJ [(pA, .inr (6, [.null, .null, .null, .null, .null, .null]))] 24 874 (fun w1 => ∃ (dA dA0 dA1 dA2 dA3 dA4 iA iA0 iA1 iA2 bA bA0 xA wA wA0 oA oA0 oA1 oA2 oA3 oA4 fA fA0 fA1 : Nat), w1 = [(pA, .inr (6, [.ref dA, .ref iA, .ref bA, .ref xA, .ref oA, .ref fA])), (dA, .inr (1, [.ref dA0, .ref dA1, .ref dA2, .ref dA3, .ref dA4, .int 0, .int 0])), (dA0, .inl (cI, 6, .inl (fun _ => 0))), (dA1, .inl (cI, 8, .inl (fun _ => 0))), (dA2, .inl (cI, 8, .inl (fun _ => 0))), (dA3, .inl (cI, 8, .inl (fun _ => 0))), (dA4, .inl (cI, 8, .inl (fun _ => 0))), (iA, .inr (3, [.ref iA0, .ref iA1, .ref iA2, .int 0])), (iA0, .inl (cI, 12, .inl (fun _ => 0))), (iA1, .inl (cJ, 96, .inr (.inl (fun _ => 0)))), (iA2, .inl (cI, 96, .inl (fun _ => 0))), (bA, .inr (0, [.ref bA0, .int 0])), (bA0, .inl (cI, 120, .inl (fun _ => 0))), (xA, .inr (5, [.ref dA, .ref iA, .ref wA])), (wA, .inr (0, [.ref wA0, .int 0])), (wA0, .inl (cI, 120, .inl (fun _ => 0))), (oA, .inr (4, [.ref bA, .ref oA0, .ref oA1, .ref oA2, .ref oA3, .ref oA4, .int 0, .int 0, .int 0])), (oA0, .inl (cI, 60, .inl (fun _ => 0))), (oA1, .inl (cI, 60, .inl (fun _ => 0))), (oA2, .inl (cI, 60, .inl (fun _ => 0))), (oA3, .inl (cI, 60, .inl (fun _ => 0))), (oA4, .inl (cI, 60, .inl (fun _ => 0))), (fA, .inr (2, [.ref dA, .ref bA, .ref oA, .ref fA0, .ref fA1])), (fA0, .inl (cI, 30, .inl (fun _ => 0))), (fA1, .inl (cI, 30, .inl (fun _ => 0)))]) := by
  refine nu_of (by decide) rfl (Nat.le_of_ble_eq_true rfl) ?_
  intro p e s m below meth c ls S hr hlocks hin hN hK hP hD hl
  have hA : ∀ q : Nat, s.heap.size ≤ q → va_A [(pA, .inr (6, [.null, .null, .null, .null, .null, .null]))] s.heap.size q := fun q h => Or.inr h
  have hS : va_S (va_A [(pA, .inr (6, [.null, .null, .null, .null, .null, .null]))] s.heap.size) s.heap s.heap [] := va_S.rf
  have hx := S.1
  have hb := S.2.1
  have hl : lv_has ls 1 [(0, .ref pA)] := hl
  refine lv_aload_n hx hb dP_init_0 rfl (lv_at hl 0 rfl) ?_
  refine oi S (idx := 1) w_67 hl.1 (Nat.le_of_ble_eq_true rfl) (Nat.le_of_ble_eq_true rfl) dP_init_1 ?_
  refine lv_aload_n hx hb dP_init_4 rfl (lv_at hl 0 rfl) ?_
  refine nwo S hK hP hD hS hA 1 (fs := [.null, .null, .null, .null, .null, .int 0, .int 0]) zD_t u_zD zD_k w_70 w_71 w_53 rfl (fun j hj => by rcases (show j = 0 ∨ j = 1 ∨ j = 2 ∨ j = 3 ∨ j = 4 ∨ j = 5 ∨ j = 6 by omega) with rfl | rfl | rfl | rfl | rfl | rfl | rfl <;> rfl) (Nat.le_of_ble_eq_true rfl) (Nat.le_of_ble_eq_true rfl) dP_init_5 (fun dA H hP hD hS => ?_)
  have hP : va_P D cs [(pA, .inr (6, [.null, .null, .null, .null, .null, .null])), (dA, .inr (1, [.null, .null, .null, .null, .null, .int 0, .int 0]))] H := hP
  have hD : va_D _ [(pA, .inr (6, [.null, .null, .null, .null, .null, .null])), (dA, .inr (1, [.null, .null, .null, .null, .null, .int 0, .int 0]))] := hD
  refine lv_dup hx hb dP_init_8 rfl ?_
  refine nu_iN (host := "PropertyDocuments") S hN hK hP hD hS hA (rest := [.ref dA, .ref pA]) (k := 0) (wr := [(pA, .inr (6, [.null, .null, .null, .null, .null, .null]))]) (cD_init l D cI cJ dA) rfl n_0 w_73 w_53 w_74 ⟨by decide +kernel, by decide +kernel, by decide +kernel⟩ [1] [0] rfl rfl rfl rfl (by decide) ⟨rfl, rfl⟩ ⟨Nat.le_of_ble_eq_true rfl, Nat.le_of_ble_eq_true rfl⟩ rfl hl.1 (Nat.le_of_ble_eq_true rfl) ⟨Nat.le_of_ble_eq_true rfl, Nat.le_of_ble_eq_true rfl⟩ dP_init_9 rfl (fun w1 H locs hp hP hD hS => ?_)
  obtain ⟨dA0, dA1, dA2, dA3, dA4, rfl⟩ := hp
  have hP : va_P D cs [(pA, .inr (6, [.null, .null, .null, .null, .null, .null])), (dA, .inr (1, [.ref dA0, .ref dA1, .ref dA2, .ref dA3, .ref dA4, .int 0, .int 0])), (dA0, .inl (cI, 6, .inl (fun _ => 0))), (dA1, .inl (cI, 8, .inl (fun _ => 0))), (dA2, .inl (cI, 8, .inl (fun _ => 0))), (dA3, .inl (cI, 8, .inl (fun _ => 0))), (dA4, .inl (cI, 8, .inl (fun _ => 0)))] H := hP
  have hD : va_D _ [(pA, .inr (6, [.null, .null, .null, .null, .null, .null])), (dA, .inr (1, [.ref dA0, .ref dA1, .ref dA2, .ref dA3, .ref dA4, .int 0, .int 0])), (dA0, .inl (cI, 6, .inl (fun _ => 0))), (dA1, .inl (cI, 8, .inl (fun _ => 0))), (dA2, .inl (cI, 8, .inl (fun _ => 0))), (dA3, .inl (cI, 8, .inl (fun _ => 0))), (dA4, .inl (cI, 8, .inl (fun _ => 0)))] := hD
  refine pfF S hK hP hD hS hin 0 6 0 (v := .ref dA) zP_t u_zP zP_k zP_n w_217 rfl rfl (by decide) rfl rfl rfl rfl rfl (Nat.le_of_ble_eq_true rfl) dP_init_12 (fun H locs hP hD hS => ?_)
  have hP : va_P D cs [(pA, .inr (6, [.ref dA, .null, .null, .null, .null, .null])), (dA, .inr (1, [.ref dA0, .ref dA1, .ref dA2, .ref dA3, .ref dA4, .int 0, .int 0])), (dA0, .inl (cI, 6, .inl (fun _ => 0))), (dA1, .inl (cI, 8, .inl (fun _ => 0))), (dA2, .inl (cI, 8, .inl (fun _ => 0))), (dA3, .inl (cI, 8, .inl (fun _ => 0))), (dA4, .inl (cI, 8, .inl (fun _ => 0)))] H := hP
  have hD : va_D _ [(pA, .inr (6, [.ref dA, .null, .null, .null, .null, .null])), (dA, .inr (1, [.ref dA0, .ref dA1, .ref dA2, .ref dA3, .ref dA4, .int 0, .int 0])), (dA0, .inl (cI, 6, .inl (fun _ => 0))), (dA1, .inl (cI, 8, .inl (fun _ => 0))), (dA2, .inl (cI, 8, .inl (fun _ => 0))), (dA3, .inl (cI, 8, .inl (fun _ => 0))), (dA4, .inl (cI, 8, .inl (fun _ => 0)))] := hD
  refine lv_aload_n hx hb dP_init_15 rfl (lv_at hl 0 rfl) ?_
  refine nwo S hK hP hD hS hA 3 (fs := [.null, .null, .null, .int 0]) zI_t u_zI zI_k w_99 w_100 w_54 rfl (fun j hj => by rcases (show j = 0 ∨ j = 1 ∨ j = 2 ∨ j = 3 by omega) with rfl | rfl | rfl | rfl <;> rfl) (Nat.le_of_ble_eq_true rfl) (Nat.le_of_ble_eq_true rfl) dP_init_16 (fun iA H hP hD hS => ?_)
  have hP : va_P D cs [(pA, .inr (6, [.ref dA, .null, .null, .null, .null, .null])), (dA, .inr (1, [.ref dA0, .ref dA1, .ref dA2, .ref dA3, .ref dA4, .int 0, .int 0])), (dA0, .inl (cI, 6, .inl (fun _ => 0))), (dA1, .inl (cI, 8, .inl (fun _ => 0))), (dA2, .inl (cI, 8, .inl (fun _ => 0))), (dA3, .inl (cI, 8, .inl (fun _ => 0))), (dA4, .inl (cI, 8, .inl (fun _ => 0))), (iA, .inr (3, [.null, .null, .null, .int 0]))] H := hP
  have hD : va_D _ [(pA, .inr (6, [.ref dA, .null, .null, .null, .null, .null])), (dA, .inr (1, [.ref dA0, .ref dA1, .ref dA2, .ref dA3, .ref dA4, .int 0, .int 0])), (dA0, .inl (cI, 6, .inl (fun _ => 0))), (dA1, .inl (cI, 8, .inl (fun _ => 0))), (dA2, .inl (cI, 8, .inl (fun _ => 0))), (dA3, .inl (cI, 8, .inl (fun _ => 0))), (dA4, .inl (cI, 8, .inl (fun _ => 0))), (iA, .inr (3, [.null, .null, .null, .int 0]))] := hD
  refine lv_dup hx hb dP_init_19 rfl ?_
  refine nu_iN (host := "PropertyDocuments") S hN hK hP hD hS hA (rest := [.ref iA, .ref pA]) (k := 0) (wr := [(pA, .inr (6, [.ref dA, .null, .null, .null, .null, .null])), (dA, .inr (1, [.ref dA0, .ref dA1, .ref dA2, .ref dA3, .ref dA4, .int 0, .int 0])), (dA0, .inl (cI, 6, .inl (fun _ => 0))), (dA1, .inl (cI, 8, .inl (fun _ => 0))), (dA2, .inl (cI, 8, .inl (fun _ => 0))), (dA3, .inl (cI, 8, .inl (fun _ => 0))), (dA4, .inl (cI, 8, .inl (fun _ => 0)))]) (cI_init l D cI cJ iA) rfl n_1 w_102 w_54 w_103 ⟨by decide +kernel, by decide +kernel, by decide +kernel⟩ [7] [0, 1, 2, 3, 4, 5, 6] rfl rfl rfl rfl (by decide) ⟨rfl, rfl⟩ ⟨Nat.le_of_ble_eq_true rfl, Nat.le_of_ble_eq_true rfl⟩ rfl hl.1 (Nat.le_of_ble_eq_true rfl) ⟨Nat.le_of_ble_eq_true rfl, Nat.le_of_ble_eq_true rfl⟩ dP_init_20 rfl (fun w1 H locs hp hP hD hS => ?_)
  obtain ⟨iA0, iA1, iA2, rfl⟩ := hp
  have hP : va_P D cs [(pA, .inr (6, [.ref dA, .null, .null, .null, .null, .null])), (dA, .inr (1, [.ref dA0, .ref dA1, .ref dA2, .ref dA3, .ref dA4, .int 0, .int 0])), (dA0, .inl (cI, 6, .inl (fun _ => 0))), (dA1, .inl (cI, 8, .inl (fun _ => 0))), (dA2, .inl (cI, 8, .inl (fun _ => 0))), (dA3, .inl (cI, 8, .inl (fun _ => 0))), (dA4, .inl (cI, 8, .inl (fun _ => 0))), (iA, .inr (3, [.ref iA0, .ref iA1, .ref iA2, .int 0])), (iA0, .inl (cI, 12, .inl (fun _ => 0))), (iA1, .inl (cJ, 96, .inr (.inl (fun _ => 0)))), (iA2, .inl (cI, 96, .inl (fun _ => 0)))] H := hP
  have hD : va_D _ [(pA, .inr (6, [.ref dA, .null, .null, .null, .null, .null])), (dA, .inr (1, [.ref dA0, .ref dA1, .ref dA2, .ref dA3, .ref dA4, .int 0, .int 0])), (dA0, .inl (cI, 6, .inl (fun _ => 0))), (dA1, .inl (cI, 8, .inl (fun _ => 0))), (dA2, .inl (cI, 8, .inl (fun _ => 0))), (dA3, .inl (cI, 8, .inl (fun _ => 0))), (dA4, .inl (cI, 8, .inl (fun _ => 0))), (iA, .inr (3, [.ref iA0, .ref iA1, .ref iA2, .int 0])), (iA0, .inl (cI, 12, .inl (fun _ => 0))), (iA1, .inl (cJ, 96, .inr (.inl (fun _ => 0)))), (iA2, .inl (cI, 96, .inl (fun _ => 0)))] := hD
  refine pfF S hK hP hD hS hin 0 6 1 (v := .ref iA) zP_t u_zP zP_k zP_n w_218 rfl rfl (by decide) rfl rfl rfl rfl rfl (Nat.le_of_ble_eq_true rfl) dP_init_23 (fun H locs hP hD hS => ?_)
  have hP : va_P D cs [(pA, .inr (6, [.ref dA, .ref iA, .null, .null, .null, .null])), (dA, .inr (1, [.ref dA0, .ref dA1, .ref dA2, .ref dA3, .ref dA4, .int 0, .int 0])), (dA0, .inl (cI, 6, .inl (fun _ => 0))), (dA1, .inl (cI, 8, .inl (fun _ => 0))), (dA2, .inl (cI, 8, .inl (fun _ => 0))), (dA3, .inl (cI, 8, .inl (fun _ => 0))), (dA4, .inl (cI, 8, .inl (fun _ => 0))), (iA, .inr (3, [.ref iA0, .ref iA1, .ref iA2, .int 0])), (iA0, .inl (cI, 12, .inl (fun _ => 0))), (iA1, .inl (cJ, 96, .inr (.inl (fun _ => 0)))), (iA2, .inl (cI, 96, .inl (fun _ => 0)))] H := hP
  have hD : va_D _ [(pA, .inr (6, [.ref dA, .ref iA, .null, .null, .null, .null])), (dA, .inr (1, [.ref dA0, .ref dA1, .ref dA2, .ref dA3, .ref dA4, .int 0, .int 0])), (dA0, .inl (cI, 6, .inl (fun _ => 0))), (dA1, .inl (cI, 8, .inl (fun _ => 0))), (dA2, .inl (cI, 8, .inl (fun _ => 0))), (dA3, .inl (cI, 8, .inl (fun _ => 0))), (dA4, .inl (cI, 8, .inl (fun _ => 0))), (iA, .inr (3, [.ref iA0, .ref iA1, .ref iA2, .int 0])), (iA0, .inl (cI, 12, .inl (fun _ => 0))), (iA1, .inl (cJ, 96, .inr (.inl (fun _ => 0)))), (iA2, .inl (cI, 96, .inl (fun _ => 0)))] := hD
  refine lv_aload_n hx hb dP_init_26 rfl (lv_at hl 0 rfl) ?_
  refine nwo S hK hP hD hS hA 0 (fs := [.null, .int 0]) zB_t u_zB zB_k w_121 w_122 w_55 rfl (fun j hj => by rcases (show j = 0 ∨ j = 1 by omega) with rfl | rfl <;> rfl) (Nat.le_of_ble_eq_true rfl) (Nat.le_of_ble_eq_true rfl) dP_init_27 (fun bA H hP hD hS => ?_)
  have hP : va_P D cs [(pA, .inr (6, [.ref dA, .ref iA, .null, .null, .null, .null])), (dA, .inr (1, [.ref dA0, .ref dA1, .ref dA2, .ref dA3, .ref dA4, .int 0, .int 0])), (dA0, .inl (cI, 6, .inl (fun _ => 0))), (dA1, .inl (cI, 8, .inl (fun _ => 0))), (dA2, .inl (cI, 8, .inl (fun _ => 0))), (dA3, .inl (cI, 8, .inl (fun _ => 0))), (dA4, .inl (cI, 8, .inl (fun _ => 0))), (iA, .inr (3, [.ref iA0, .ref iA1, .ref iA2, .int 0])), (iA0, .inl (cI, 12, .inl (fun _ => 0))), (iA1, .inl (cJ, 96, .inr (.inl (fun _ => 0)))), (iA2, .inl (cI, 96, .inl (fun _ => 0))), (bA, .inr (0, [.null, .int 0]))] H := hP
  have hD : va_D _ [(pA, .inr (6, [.ref dA, .ref iA, .null, .null, .null, .null])), (dA, .inr (1, [.ref dA0, .ref dA1, .ref dA2, .ref dA3, .ref dA4, .int 0, .int 0])), (dA0, .inl (cI, 6, .inl (fun _ => 0))), (dA1, .inl (cI, 8, .inl (fun _ => 0))), (dA2, .inl (cI, 8, .inl (fun _ => 0))), (dA3, .inl (cI, 8, .inl (fun _ => 0))), (dA4, .inl (cI, 8, .inl (fun _ => 0))), (iA, .inr (3, [.ref iA0, .ref iA1, .ref iA2, .int 0])), (iA0, .inl (cI, 12, .inl (fun _ => 0))), (iA1, .inl (cJ, 96, .inr (.inl (fun _ => 0)))), (iA2, .inl (cI, 96, .inl (fun _ => 0))), (bA, .inr (0, [.null, .int 0]))] := hD
  refine lv_dup hx hb dP_init_30 rfl ?_
  refine nu_iN (host := "PropertyDocuments") S hN hK hP hD hS hA (rest := [.ref bA, .ref pA]) (k := 0) (wr := [(pA, .inr (6, [.ref dA, .ref iA, .null, .null, .null, .null])), (dA, .inr (1, [.ref dA0, .ref dA1, .ref dA2, .ref dA3, .ref dA4, .int 0, .int 0])), (dA0, .inl (cI, 6, .inl (fun _ => 0))), (dA1, .inl (cI, 8, .inl (fun _ => 0))), (dA2, .inl (cI, 8, .inl (fun _ => 0))), (dA3, .inl (cI, 8, .inl (fun _ => 0))), (dA4, .inl (cI, 8, .inl (fun _ => 0))), (iA, .inr (3, [.ref iA0, .ref iA1, .ref iA2, .int 0])), (iA0, .inl (cI, 12, .inl (fun _ => 0))), (iA1, .inl (cJ, 96, .inr (.inl (fun _ => 0)))), (iA2, .inl (cI, 96, .inl (fun _ => 0)))]) (cB_init l D cI cJ bA) rfl n_4 w_124 w_55 w_125 ⟨by decide +kernel, by decide +kernel, by decide +kernel⟩ [11] [0, 1, 2, 3, 4, 5, 6, 7, 8, 9, 10] rfl rfl rfl rfl (by decide) ⟨rfl, rfl⟩ ⟨Nat.le_of_ble_eq_true rfl, Nat.le_of_ble_eq_true rfl⟩ rfl hl.1 (Nat.le_of_ble_eq_true rfl) ⟨Nat.le_of_ble_eq_true rfl, Nat.le_of_ble_eq_true rfl⟩ dP_init_31 rfl (fun w1 H locs hp hP hD hS => ?_)
  obtain ⟨bA0, rfl⟩ := hp
  have hP : va_P D cs [(pA, .inr (6, [.ref dA, .ref iA, .null, .null, .null, .null])), (dA, .inr (1, [.ref dA0, .ref dA1, .ref dA2, .ref dA3, .ref dA4, .int 0, .int 0])), (dA0, .inl (cI, 6, .inl (fun _ => 0))), (dA1, .inl (cI, 8, .inl (fun _ => 0))), (dA2, .inl (cI, 8, .inl (fun _ => 0))), (dA3, .inl (cI, 8, .inl (fun _ => 0))), (dA4, .inl (cI, 8, .inl (fun _ => 0))), (iA, .inr (3, [.ref iA0, .ref iA1, .ref iA2, .int 0])), (iA0, .inl (cI, 12, .inl (fun _ => 0))), (iA1, .inl (cJ, 96, .inr (.inl (fun _ => 0)))), (iA2, .inl (cI, 96, .inl (fun _ => 0))), (bA, .inr (0, [.ref bA0, .int 0])), (bA0, .inl (cI, 120, .inl (fun _ => 0)))] H := hP
  have hD : va_D _ [(pA, .inr (6, [.ref dA, .ref iA, .null, .null, .null, .null])), (dA, .inr (1, [.ref dA0, .ref dA1, .ref dA2, .ref dA3, .ref dA4, .int 0, .int 0])), (dA0, .inl (cI, 6, .inl (fun _ => 0))), (dA1, .inl (cI, 8, .inl (fun _ => 0))), (dA2, .inl (cI, 8, .inl (fun _ => 0))), (dA3, .inl (cI, 8, .inl (fun _ => 0))), (dA4, .inl (cI, 8, .inl (fun _ => 0))), (iA, .inr (3, [.ref iA0, .ref iA1, .ref iA2, .int 0])), (iA0, .inl (cI, 12, .inl (fun _ => 0))), (iA1, .inl (cJ, 96, .inr (.inl (fun _ => 0)))), (iA2, .inl (cI, 96, .inl (fun _ => 0))), (bA, .inr (0, [.ref bA0, .int 0])), (bA0, .inl (cI, 120, .inl (fun _ => 0)))] := hD
  refine pfF S hK hP hD hS hin 0 6 2 (v := .ref bA) zP_t u_zP zP_k zP_n w_219 rfl rfl (by decide) rfl rfl rfl rfl rfl (Nat.le_of_ble_eq_true rfl) dP_init_34 (fun H locs hP hD hS => ?_)
  have hP : va_P D cs [(pA, .inr (6, [.ref dA, .ref iA, .ref bA, .null, .null, .null])), (dA, .inr (1, [.ref dA0, .ref dA1, .ref dA2, .ref dA3, .ref dA4, .int 0, .int 0])), (dA0, .inl (cI, 6, .inl (fun _ => 0))), (dA1, .inl (cI, 8, .inl (fun _ => 0))), (dA2, .inl (cI, 8, .inl (fun _ => 0))), (dA3, .inl (cI, 8, .inl (fun _ => 0))), (dA4, .inl (cI, 8, .inl (fun _ => 0))), (iA, .inr (3, [.ref iA0, .ref iA1, .ref iA2, .int 0])), (iA0, .inl (cI, 12, .inl (fun _ => 0))), (iA1, .inl (cJ, 96, .inr (.inl (fun _ => 0)))), (iA2, .inl (cI, 96, .inl (fun _ => 0))), (bA, .inr (0, [.ref bA0, .int 0])), (bA0, .inl (cI, 120, .inl (fun _ => 0)))] H := hP
  have hD : va_D _ [(pA, .inr (6, [.ref dA, .ref iA, .ref bA, .null, .null, .null])), (dA, .inr (1, [.ref dA0, .ref dA1, .ref dA2, .ref dA3, .ref dA4, .int 0, .int 0])), (dA0, .inl (cI, 6, .inl (fun _ => 0))), (dA1, .inl (cI, 8, .inl (fun _ => 0))), (dA2, .inl (cI, 8, .inl (fun _ => 0))), (dA3, .inl (cI, 8, .inl (fun _ => 0))), (dA4, .inl (cI, 8, .inl (fun _ => 0))), (iA, .inr (3, [.ref iA0, .ref iA1, .ref iA2, .int 0])), (iA0, .inl (cI, 12, .inl (fun _ => 0))), (iA1, .inl (cJ, 96, .inr (.inl (fun _ => 0)))), (iA2, .inl (cI, 96, .inl (fun _ => 0))), (bA, .inr (0, [.ref bA0, .int 0])), (bA0, .inl (cI, 120, .inl (fun _ => 0)))] := hD
  refine lv_aload_n hx hb dP_init_37 rfl (lv_at hl 0 rfl) ?_
  refine nwo S hK hP hD hS hA 5 (fs := [.null, .null, .null]) zW_t u_zW zW_k w_137 w_138 w_56 rfl (fun j hj => by rcases (show j = 0 ∨ j = 1 ∨ j = 2 by omega) with rfl | rfl | rfl <;> rfl) (Nat.le_of_ble_eq_true rfl) (Nat.le_of_ble_eq_true rfl) dP_init_38 (fun xA H hP hD hS => ?_)
  have hP : va_P D cs [(pA, .inr (6, [.ref dA, .ref iA, .ref bA, .null, .null, .null])), (dA, .inr (1, [.ref dA0, .ref dA1, .ref dA2, .ref dA3, .ref dA4, .int 0, .int 0])), (dA0, .inl (cI, 6, .inl (fun _ => 0))), (dA1, .inl (cI, 8, .inl (fun _ => 0))), (dA2, .inl (cI, 8, .inl (fun _ => 0))), (dA3, .inl (cI, 8, .inl (fun _ => 0))), (dA4, .inl (cI, 8, .inl (fun _ => 0))), (iA, .inr (3, [.ref iA0, .ref iA1, .ref iA2, .int 0])), (iA0, .inl (cI, 12, .inl (fun _ => 0))), (iA1, .inl (cJ, 96, .inr (.inl (fun _ => 0)))), (iA2, .inl (cI, 96, .inl (fun _ => 0))), (bA, .inr (0, [.ref bA0, .int 0])), (bA0, .inl (cI, 120, .inl (fun _ => 0))), (xA, .inr (5, [.null, .null, .null]))] H := hP
  have hD : va_D _ [(pA, .inr (6, [.ref dA, .ref iA, .ref bA, .null, .null, .null])), (dA, .inr (1, [.ref dA0, .ref dA1, .ref dA2, .ref dA3, .ref dA4, .int 0, .int 0])), (dA0, .inl (cI, 6, .inl (fun _ => 0))), (dA1, .inl (cI, 8, .inl (fun _ => 0))), (dA2, .inl (cI, 8, .inl (fun _ => 0))), (dA3, .inl (cI, 8, .inl (fun _ => 0))), (dA4, .inl (cI, 8, .inl (fun _ => 0))), (iA, .inr (3, [.ref iA0, .ref iA1, .ref iA2, .int 0])), (iA0, .inl (cI, 12, .inl (fun _ => 0))), (iA1, .inl (cJ, 96, .inr (.inl (fun _ => 0)))), (iA2, .inl (cI, 96, .inl (fun _ => 0))), (bA, .inr (0, [.ref bA0, .int 0])), (bA0, .inl (cI, 120, .inl (fun _ => 0))), (xA, .inr (5, [.null, .null, .null]))] := hD
  refine lv_dup hx hb dP_init_41 rfl ?_
  refine lv_aload_n hx hb dP_init_42 rfl (lv_at hl 0 rfl) ?_
  refine gf S hK hP 0 6 0 u_zP w_217 rfl rfl (by decide) rfl dP_init_43 ?_
  refine lv_aload_n hx hb dP_init_46 rfl (lv_at hl 0 rfl) ?_
  refine gf S hK hP 0 6 1 u_zP w_218 rfl rfl (by decide) rfl dP_init_47 ?_
  refine nu_i S hN hK hP hD hS hA (rest := [.ref xA, .ref pA]) (k := 2) (wr := [(pA, .inr (6, [.ref dA, .ref iA, .ref bA, .null, .null, .null])), (dA, .inr (1, [.ref dA0, .ref dA1, .ref dA2, .ref dA3, .ref dA4, .int 0, .int 0])), (dA0, .inl (cI, 6, .inl (fun _ => 0))), (dA1, .inl (cI, 8, .inl (fun _ => 0))), (dA2, .inl (cI, 8, .inl (fun _ => 0))), (dA3, .inl (cI, 8, .inl (fun _ => 0))), (dA4, .inl (cI, 8, .inl (fun _ => 0))), (iA, .inr (3, [.ref iA0, .ref iA1, .ref iA2, .int 0])), (iA0, .inl (cI, 12, .inl (fun _ => 0))), (iA1, .inl (cJ, 96, .inr (.inl (fun _ => 0)))), (iA2, .inl (cI, 96, .inl (fun _ => 0))), (bA, .inr (0, [.ref bA0, .int 0])), (bA0, .inl (cI, 120, .inl (fun _ => 0)))]) (cW_init l D cI cJ xA dA iA) rfl w_139 w_140 w_56 w_141 ⟨by decide +kernel, by decide +kernel, by decide +kernel⟩ [13] [0, 1, 2, 3, 4, 5, 6, 7, 8, 9, 10, 11, 12] rfl rfl rfl rfl (by decide) ⟨rfl, rfl⟩ ⟨Nat.le_of_ble_eq_true rfl, Nat.le_of_ble_eq_true rfl⟩ rfl hl.1 (Nat.le_of_ble_eq_true rfl) ⟨Nat.le_of_ble_eq_true rfl, Nat.le_of_ble_eq_true rfl⟩ dP_init_50 rfl (fun w1 H locs hp hP hD hS => ?_)
  obtain ⟨wA, wA0, rfl⟩ := hp
  have hP : va_P D cs [(pA, .inr (6, [.ref dA, .ref iA, .ref bA, .null, .null, .null])), (dA, .inr (1, [.ref dA0, .ref dA1, .ref dA2, .ref dA3, .ref dA4, .int 0, .int 0])), (dA0, .inl (cI, 6, .inl (fun _ => 0))), (dA1, .inl (cI, 8, .inl (fun _ => 0))), (dA2, .inl (cI, 8, .inl (fun _ => 0))), (dA3, .inl (cI, 8, .inl (fun _ => 0))), (dA4, .inl (cI, 8, .inl (fun _ => 0))), (iA, .inr (3, [.ref iA0, .ref iA1, .ref iA2, .int 0])), (iA0, .inl (cI, 12, .inl (fun _ => 0))), (iA1, .inl (cJ, 96, .inr (.inl (fun _ => 0)))), (iA2, .inl (cI, 96, .inl (fun _ => 0))), (bA, .inr (0, [.ref bA0, .int 0])), (bA0, .inl (cI, 120, .inl (fun _ => 0))), (xA, .inr (5, [.ref dA, .ref iA, .ref wA])), (wA, .inr (0, [.ref wA0, .int 0])), (wA0, .inl (cI, 120, .inl (fun _ => 0)))] H := hP
  have hD : va_D _ [(pA, .inr (6, [.ref dA, .ref iA, .ref bA, .null, .null, .null])), (dA, .inr (1, [.ref dA0, .ref dA1, .ref dA2, .ref dA3, .ref dA4, .int 0, .int 0])), (dA0, .inl (cI, 6, .inl (fun _ => 0))), (dA1, .inl (cI, 8, .inl (fun _ => 0))), (dA2, .inl (cI, 8, .inl (fun _ => 0))), (dA3, .inl (cI, 8, .inl (fun _ => 0))), (dA4, .inl (cI, 8, .inl (fun _ => 0))), (iA, .inr (3, [.ref iA0, .ref iA1, .ref iA2, .int 0])), (iA0, .inl (cI, 12, .inl (fun _ => 0))), (iA1, .inl (cJ, 96, .inr (.inl (fun _ => 0)))), (iA2, .inl (cI, 96, .inl (fun _ => 0))), (bA, .inr (0, [.ref bA0, .int 0])), (bA0, .inl (cI, 120, .inl (fun _ => 0))), (xA, .inr (5, [.ref dA, .ref iA, .ref wA])), (wA, .inr (0, [.ref wA0, .int 0])), (wA0, .inl (cI, 120, .inl (fun _ => 0)))] := hD
  refine pfF S hK hP hD hS hin 0 6 3 (v := .ref xA) zP_t u_zP zP_k zP_n w_220 rfl rfl (by decide) rfl rfl rfl rfl rfl (Nat.le_of_ble_eq_true rfl) dP_init_53 (fun H locs hP hD hS => ?_)
  have hP : va_P D cs [(pA, .inr (6, [.ref dA, .ref iA, .ref bA, .ref xA, .null, .null])), (dA, .inr (1, [.ref dA0, .ref dA1, .ref dA2, .ref dA3, .ref dA4, .int 0, .int 0])), (dA0, .inl (cI, 6, .inl (fun _ => 0))), (dA1, .inl (cI, 8, .inl (fun _ => 0))), (dA2, .inl (cI, 8, .inl (fun _ => 0))), (dA3, .inl (cI, 8, .inl (fun _ => 0))), (dA4, .inl (cI, 8, .inl (fun _ => 0))), (iA, .inr (3, [.ref iA0, .ref iA1, .ref iA2, .int 0])), (iA0, .inl (cI, 12, .inl (fun _ => 0))), (iA1, .inl (cJ, 96, .inr (.inl (fun _ => 0)))), (iA2, .inl (cI, 96, .inl (fun _ => 0))), (bA, .inr (0, [.ref bA0, .int 0])), (bA0, .inl (cI, 120, .inl (fun _ => 0))), (xA, .inr (5, [.ref dA, .ref iA, .ref wA])), (wA, .inr (0, [.ref wA0, .int 0])), (wA0, .inl (cI, 120, .inl (fun _ => 0)))] H := hP
  have hD : va_D _ [(pA, .inr (6, [.ref dA, .ref iA, .ref bA, .ref xA, .null, .null])), (dA, .inr (1, [.ref dA0, .ref dA1, .ref dA2, .ref dA3, .ref dA4, .int 0, .int 0])), (dA0, .inl (cI, 6, .inl (fun _ => 0))), (dA1, .inl (cI, 8, .inl (fun _ => 0))), (dA2, .inl (cI, 8, .inl (fun _ => 0))), (dA3, .inl (cI, 8, .inl (fun _ => 0))), (dA4, .inl (cI, 8, .inl (fun _ => 0))), (iA, .inr (3, [.ref iA0, .ref iA1, .ref iA2, .int 0])), (iA0, .inl (cI, 12, .inl (fun _ => 0))), (iA1, .inl (cJ, 96, .inr (.inl (fun _ => 0)))), (iA2, .inl (cI, 96, .inl (fun _ => 0))), (bA, .inr (0, [.ref bA0, .int 0])), (bA0, .inl (cI, 120, .inl (fun _ => 0))), (xA, .inr (5, [.ref dA, .ref iA, .ref wA])), (wA, .inr (0, [.ref wA0, .int 0])), (wA0, .inl (cI, 120, .inl (fun _ => 0)))] := hD
  refine lv_aload_n hx hb dP_init_56 rfl (lv_at hl 0 rfl) ?_
  refine nwo S hK hP hD hS hA 4 (fs := [.null, .null, .null, .null, .null, .null, .int 0, .int 0, .int 0]) zO_t u_zO zO_k w_156 w_157 w_57 rfl (fun j hj => by rcases (show j = 0 ∨ j = 1 ∨ j = 2 ∨ j = 3 ∨ j = 4 ∨ j = 5 ∨ j = 6 ∨ j = 7 ∨ j = 8 by omega) with rfl | rfl | rfl | rfl | rfl | rfl | rfl | rfl | rfl <;> rfl) (Nat.le_of_ble_eq_true rfl) (Nat.le_of_ble_eq_true rfl) dP_init_57 (fun oA H hP hD hS => ?_)
  have hP : va_P D cs [(pA, .inr (6, [.ref dA, .ref iA, .ref bA, .ref xA, .null, .null])), (dA, .inr (1, [.ref dA0, .ref dA1, .ref dA2, .ref dA3, .ref dA4, .int 0, .int 0])), (dA0, .inl (cI, 6, .inl (fun _ => 0))), (dA1, .inl (cI, 8, .inl (fun _ => 0))), (dA2, .inl (cI, 8, .inl (fun _ => 0))), (dA3, .inl (cI, 8, .inl (fun _ => 0))), (dA4, .inl (cI, 8, .inl (fun _ => 0))), (iA, .inr (3, [.ref iA0, .ref iA1, .ref iA2, .int 0])), (iA0, .inl (cI, 12, .inl (fun _ => 0))), (iA1, .inl (cJ, 96, .inr (.inl (fun _ => 0)))), (iA2, .inl (cI, 96, .inl (fun _ => 0))), (bA, .inr (0, [.ref bA0, .int 0])), (bA0, .inl (cI, 120, .inl (fun _ => 0))), (xA, .inr (5, [.ref dA, .ref iA, .ref wA])), (wA, .inr (0, [.ref wA0, .int 0])), (wA0, .inl (cI, 120, .inl (fun _ => 0))), (oA, .inr (4, [.null, .null, .null, .null, .null, .null, .int 0, .int 0, .int 0]))] H := hP
  have hD : va_D _ [(pA, .inr (6, [.ref dA, .ref iA, .ref bA, .ref xA, .null, .null])), (dA, .inr (1, [.ref dA0, .ref dA1, .ref dA2, .ref dA3, .ref dA4, .int 0, .int 0])), (dA0, .inl (cI, 6, .inl (fun _ => 0))), (dA1, .inl (cI, 8, .inl (fun _ => 0))), (dA2, .inl (cI, 8, .inl (fun _ => 0))), (dA3, .inl (cI, 8, .inl (fun _ => 0))), (dA4, .inl (cI, 8, .inl (fun _ => 0))), (iA, .inr (3, [.ref iA0, .ref iA1, .ref iA2, .int 0])), (iA0, .inl (cI, 12, .inl (fun _ => 0))), (iA1, .inl (cJ, 96, .inr (.inl (fun _ => 0)))), (iA2, .inl (cI, 96, .inl (fun _ => 0))), (bA, .inr (0, [.ref bA0, .int 0])), (bA0, .inl (cI, 120, .inl (fun _ => 0))), (xA, .inr (5, [.ref dA, .ref iA, .ref wA])), (wA, .inr (0, [.ref wA0, .int 0])), (wA0, .inl (cI, 120, .inl (fun _ => 0))), (oA, .inr (4, [.null, .null, .null, .null, .null, .null, .int 0, .int 0, .int 0]))] := hD
  refine lv_dup hx hb dP_init_60 rfl ?_
  refine lv_aload_n hx hb dP_init_61 rfl (lv_at hl 0 rfl) ?_
  refine gf S hK hP 0 6 2 u_zP w_219 rfl rfl (by decide) rfl dP_init_62 ?_
  refine nu_i S hN hK hP hD hS hA (rest := [.ref oA, .ref pA]) (k := 1) (wr := [(pA, .inr (6, [.ref dA, .ref iA, .ref bA, .ref xA, .null, .null])), (dA, .inr (1, [.ref dA0, .ref dA1, .ref dA2, .ref dA3, .ref dA4, .int 0, .int 0])), (dA0, .inl (cI, 6, .inl (fun _ => 0))), (dA1, .inl (cI, 8, .inl (fun _ => 0))), (dA2, .inl (cI, 8, .inl (fun _ => 0))), (dA3, .inl (cI, 8, .inl (fun _ => 0))), (dA4, .inl (cI, 8, .inl (fun _ => 0))), (iA, .inr (3, [.ref iA0, .ref iA1, .ref iA2, .int 0])), (iA0, .inl (cI, 12, .inl (fun _ => 0))), (iA1, .inl (cJ, 96, .inr (.inl (fun _ => 0)))), (iA2, .inl (cI, 96, .inl (fun _ => 0))), (bA, .inr (0, [.ref bA0, .int 0])), (bA0, .inl (cI, 120, .inl (fun _ => 0))), (xA, .inr (5, [.ref dA, .ref iA, .ref wA])), (wA, .inr (0, [.ref wA0, .int 0])), (wA0, .inl (cI, 120, .inl (fun _ => 0)))]) (cO_init l D cI cJ oA bA) rfl w_158 w_159 w_57 w_160 ⟨by decide +kernel, by decide +kernel, by decide +kernel⟩ [16] [0, 1, 2, 3, 4, 5, 6, 7, 8, 9, 10, 11, 12, 13, 14, 15] rfl rfl rfl rfl (by decide) ⟨rfl, rfl⟩ ⟨Nat.le_of_ble_eq_true rfl, Nat.le_of_ble_eq_true rfl⟩ rfl hl.1 (Nat.le_of_ble_eq_true rfl) ⟨Nat.le_of_ble_eq_true rfl, Nat.le_of_ble_eq_true rfl⟩ dP_init_65 rfl (fun w1 H locs hp hP hD hS => ?_)
  obtain ⟨oA0, oA1, oA2, oA3, oA4, rfl⟩ := hp
  have hP : va_P D cs [(pA, .inr (6, [.ref dA, .ref iA, .ref bA, .ref xA, .null, .null])), (dA, .inr (1, [.ref dA0, .ref dA1, .ref dA2, .ref dA3, .ref dA4, .int 0, .int 0])), (dA0, .inl (cI, 6, .inl (fun _ => 0))), (dA1, .inl (cI, 8, .inl (fun _ => 0))), (dA2, .inl (cI, 8, .inl (fun _ => 0))), (dA3, .inl (cI, 8, .inl (fun _ => 0))), (dA4, .inl (cI, 8, .inl (fun _ => 0))), (iA, .inr (3, [.ref iA0, .ref iA1, .ref iA2, .int 0])), (iA0, .inl (cI, 12, .inl (fun _ => 0))), (iA1, .inl (cJ, 96, .inr (.inl (fun _ => 0)))), (iA2, .inl (cI, 96, .inl (fun _ => 0))), (bA, .inr (0, [.ref bA0, .int 0])), (bA0, .inl (cI, 120, .inl (fun _ => 0))), (xA, .inr (5, [.ref dA, .ref iA, .ref wA])), (wA, .inr (0, [.ref wA0, .int 0])), (wA0, .inl (cI, 120, .inl (fun _ => 0))), (oA, .inr (4, [.ref bA, .ref oA0, .ref oA1, .ref oA2, .ref oA3, .ref oA4, .int 0, .int 0, .int 0])), (oA0, .inl (cI, 60, .inl (fun _ => 0))), (oA1, .inl (cI, 60, .inl (fun _ => 0))), (oA2, .inl (cI, 60, .inl (fun _ => 0))), (oA3, .inl (cI, 60, .inl (fun _ => 0))), (oA4, .inl (cI, 60, .inl (fun _ => 0)))] H := hP
  have hD : va_D _ [(pA, .inr (6, [.ref dA, .ref iA, .ref bA, .ref xA, .null, .null])), (dA, .inr (1, [.ref dA0, .ref dA1, .ref dA2, .ref dA3, .ref dA4, .int 0, .int 0])), (dA0, .inl (cI, 6, .inl (fun _ => 0))), (dA1, .inl (cI, 8, .inl (fun _ => 0))), (dA2, .inl (cI, 8, .inl (fun _ => 0))), (dA3, .inl (cI, 8, .inl (fun _ => 0))), (dA4, .inl (cI, 8, .inl (fun _ => 0))), (iA, .inr (3, [.ref iA0, .ref iA1, .ref iA2, .int 0])), (iA0, .inl (cI, 12, .inl (fun _ => 0))), (iA1, .inl (cJ, 96, .inr (.inl (fun _ => 0)))), (iA2, .inl (cI, 96, .inl (fun _ => 0))), (bA, .inr (0, [.ref bA0, .int 0])), (bA0, .inl (cI, 120, .inl (fun _ => 0))), (xA, .inr (5, [.ref dA, .ref iA, .ref wA])), (wA, .inr (0, [.ref wA0, .int 0])), (wA0, .inl (cI, 120, .inl (fun _ => 0))), (oA, .inr (4, [.ref bA, .ref oA0, .ref oA1, .ref oA2, .ref oA3, .ref oA4, .int 0, .int 0, .int 0])), (oA0, .inl (cI, 60, .inl (fun _ => 0))), (oA1, .inl (cI, 60, .inl (fun _ => 0))), (oA2, .inl (cI, 60, .inl (fun _ => 0))), (oA3, .inl (cI, 60, .inl (fun _ => 0))), (oA4, .inl (cI, 60, .inl (fun _ => 0)))] := hD
  refine pfF S hK hP hD hS hin 0 6 4 (v := .ref oA) zP_t u_zP zP_k zP_n w_221 rfl rfl (by decide) rfl rfl rfl rfl rfl (Nat.le_of_ble_eq_true rfl) dP_init_68 (fun H locs hP hD hS => ?_)
  have hP : va_P D cs [(pA, .inr (6, [.ref dA, .ref iA, .ref bA, .ref xA, .ref oA, .null])), (dA, .inr (1, [.ref dA0, .ref dA1, .ref dA2, .ref dA3, .ref dA4, .int 0, .int 0])), (dA0, .inl (cI, 6, .inl (fun _ => 0))), (dA1, .inl (cI, 8, .inl (fun _ => 0))), (dA2, .inl (cI, 8, .inl (fun _ => 0))), (dA3, .inl (cI, 8, .inl (fun _ => 0))), (dA4, .inl (cI, 8, .inl (fun _ => 0))), (iA, .inr (3, [.ref iA0, .ref iA1, .ref iA2, .int 0])), (iA0, .inl (cI, 12, .inl (fun _ => 0))), (iA1, .inl (cJ, 96, .inr (.inl (fun _ => 0)))), (iA2, .inl (cI, 96, .inl (fun _ => 0))), (bA, .inr (0, [.ref bA0, .int 0])), (bA0, .inl (cI, 120, .inl (fun _ => 0))), (xA, .inr (5, [.ref dA, .ref iA, .ref wA])), (wA, .inr (0, [.ref wA0, .int 0])), (wA0, .inl (cI, 120, .inl (fun _ => 0))), (oA, .inr (4, [.ref bA, .ref oA0, .ref oA1, .ref oA2, .ref oA3, .ref oA4, .int 0, .int 0, .int 0])), (oA0, .inl (cI, 60, .inl (fun _ => 0))), (oA1, .inl (cI, 60, .inl (fun _ => 0))), (oA2, .inl (cI, 60, .inl (fun _ => 0))), (oA3, .inl (cI, 60, .inl (fun _ => 0))), (oA4, .inl (cI, 60, .inl (fun _ => 0)))] H := hP
  have hD : va_D _ [(pA, .inr (6, [.ref dA, .ref iA, .ref bA, .ref xA, .ref oA, .null])), (dA, .inr (1, [.ref dA0, .ref dA1, .ref dA2, .ref dA3, .ref dA4, .int 0, .int 0])), (dA0, .inl (cI, 6, .inl (fun _ => 0))), (dA1, .inl (cI, 8, .inl (fun _ => 0))), (dA2, .inl (cI, 8, .inl (fun _ => 0))), (dA3, .inl (cI, 8, .inl (fun _ => 0))), (dA4, .inl (cI, 8, .inl (fun _ => 0))), (iA, .inr (3, [.ref iA0, .ref iA1, .ref iA2, .int 0])), (iA0, .inl (cI, 12, .inl (fun _ => 0))), (iA1, .inl (cJ, 96, .inr (.inl (fun _ => 0)))), (iA2, .inl (cI, 96, .inl (fun _ => 0))), (bA, .inr (0, [.ref bA0, .int 0])), (bA0, .inl (cI, 120, .inl (fun _ => 0))), (xA, .inr (5, [.ref dA, .ref iA, .ref wA])), (wA, .inr (0, [.ref wA0, .int 0])), (wA0, .inl (cI, 120, .inl (fun _ => 0))), (oA, .inr (4, [.ref bA, .ref oA0, .ref oA1, .ref oA2, .ref oA3, .ref oA4, .int 0, .int 0, .int 0])), (oA0, .inl (cI, 60, .inl (fun _ => 0))), (oA1, .inl (cI, 60, .inl (fun _ => 0))), (oA2, .inl (cI, 60, .inl (fun _ => 0))), (oA3, .inl (cI, 60, .inl (fun _ => 0))), (oA4, .inl (cI, 60, .inl (fun _ => 0)))] := hD
  refine lv_aload_n hx hb dP_init_71 rfl (lv_at hl 0 rfl) ?_
  refine nwo S hK hP hD hS hA 2 (fs := [.null, .null, .null, .null, .null]) zF_t u_zF zF_k w_195 w_196 w_58 rfl (fun j hj => by rcases (show j = 0 ∨ j = 1 ∨ j = 2 ∨ j = 3 ∨ j = 4 by omega) with rfl | rfl | rfl | rfl | rfl <;> rfl) (Nat.le_of_ble_eq_true rfl) (Nat.le_of_ble_eq_true rfl) dP_init_72 (fun fA H hP hD hS => ?_)
  have hP : va_P D cs [(pA, .inr (6, [.ref dA, .ref iA, .ref bA, .ref xA, .ref oA, .null])), (dA, .inr (1, [.ref dA0, .ref dA1, .ref dA2, .ref dA3, .ref dA4, .int 0, .int 0])), (dA0, .inl (cI, 6, .inl (fun _ => 0))), (dA1, .inl (cI, 8, .inl (fun _ => 0))), (dA2, .inl (cI, 8, .inl (fun _ => 0))), (dA3, .inl (cI, 8, .inl (fun _ => 0))), (dA4, .inl (cI, 8, .inl (fun _ => 0))), (iA, .inr (3, [.ref iA0, .ref iA1, .ref iA2, .int 0])), (iA0, .inl (cI, 12, .inl (fun _ => 0))), (iA1, .inl (cJ, 96, .inr (.inl (fun _ => 0)))), (iA2, .inl (cI, 96, .inl (fun _ => 0))), (bA, .inr (0, [.ref bA0, .int 0])), (bA0, .inl (cI, 120, .inl (fun _ => 0))), (xA, .inr (5, [.ref dA, .ref iA, .ref wA])), (wA, .inr (0, [.ref wA0, .int 0])), (wA0, .inl (cI, 120, .inl (fun _ => 0))), (oA, .inr (4, [.ref bA, .ref oA0, .ref oA1, .ref oA2, .ref oA3, .ref oA4, .int 0, .int 0, .int 0])), (oA0, .inl (cI, 60, .inl (fun _ => 0))), (oA1, .inl (cI, 60, .inl (fun _ => 0))), (oA2, .inl (cI, 60, .inl (fun _ => 0))), (oA3, .inl (cI, 60, .inl (fun _ => 0))), (oA4, .inl (cI, 60, .inl (fun _ => 0))), (fA, .inr (2, [.null, .null, .null, .null, .null]))] H := hP
  have hD : va_D _ [(pA, .inr (6, [.ref dA, .ref iA, .ref bA, .ref xA, .ref oA, .null])), (dA, .inr (1, [.ref dA0, .ref dA1, .ref dA2, .ref dA3, .ref dA4, .int 0, .int 0])), (dA0, .inl (cI, 6, .inl (fun _ => 0))), (dA1, .inl (cI, 8, .inl (fun _ => 0))), (dA2, .inl (cI, 8, .inl (fun _ => 0))), (dA3, .inl (cI, 8, .inl (fun _ => 0))), (dA4, .inl (cI, 8, .inl (fun _ => 0))), (iA, .inr (3, [.ref iA0, .ref iA1, .ref iA2, .int 0])), (iA0, .inl (cI, 12, .inl (fun _ => 0))), (iA1, .inl (cJ, 96, .inr (.inl (fun _ => 0)))), (iA2, .inl (cI, 96, .inl (fun _ => 0))), (bA, .inr (0, [.ref bA0, .int 0])), (bA0, .inl (cI, 120, .inl (fun _ => 0))), (xA, .inr (5, [.ref dA, .ref iA, .ref wA])), (wA, .inr (0, [.ref wA0, .int 0])), (wA0, .inl (cI, 120, .inl (fun _ => 0))), (oA, .inr (4, [.ref bA, .ref oA0, .ref oA1, .ref oA2, .ref oA3, .ref oA4, .int 0, .int 0, .int 0])), (oA0, .inl (cI, 60, .inl (fun _ => 0))), (oA1, .inl (cI, 60, .inl (fun _ => 0))), (oA2, .inl (cI, 60, .inl (fun _ => 0))), (oA3, .inl (cI, 60, .inl (fun _ => 0))), (oA4, .inl (cI, 60, .inl (fun _ => 0))), (fA, .inr (2, [.null, .null, .null, .null, .null]))] := hD
  refine lv_dup hx hb dP_init_75 rfl ?_
  refine lv_aload_n hx hb dP_init_76 rfl (lv_at hl 0 rfl) ?_
  refine gf S hK hP 0 6 0 u_zP w_217 rfl rfl (by decide) rfl dP_init_77 ?_
  refine lv_aload_n hx hb dP_init_80 rfl (lv_at hl 0 rfl) ?_
  refine gf S hK hP 0 6 2 u_zP w_219 rfl rfl (by decide) rfl dP_init_81 ?_
  refine lv_aload_n hx hb dP_init_84 rfl (lv_at hl 0 rfl) ?_
  refine gf S hK hP 0 6 4 u_zP w_221 rfl rfl (by decide) rfl dP_init_85 ?_
  refine nu_i S hN hK hP hD hS hA (rest := [.ref fA, .ref pA]) (k := 3) (wr := [(pA, .inr (6, [.ref dA, .ref iA, .ref bA, .ref xA, .ref oA, .null])), (dA, .inr (1, [.ref dA0, .ref dA1, .ref dA2, .ref dA3, .ref dA4, .int 0, .int 0])), (dA0, .inl (cI, 6, .inl (fun _ => 0))), (dA1, .inl (cI, 8, .inl (fun _ => 0))), (dA2, .inl (cI, 8, .inl (fun _ => 0))), (dA3, .inl (cI, 8, .inl (fun _ => 0))), (dA4, .inl (cI, 8, .inl (fun _ => 0))), (iA, .inr (3, [.ref iA0, .ref iA1, .ref iA2, .int 0])), (iA0, .inl (cI, 12, .inl (fun _ => 0))), (iA1, .inl (cJ, 96, .inr (.inl (fun _ => 0)))), (iA2, .inl (cI, 96, .inl (fun _ => 0))), (bA, .inr (0, [.ref bA0, .int 0])), (bA0, .inl (cI, 120, .inl (fun _ => 0))), (xA, .inr (5, [.ref dA, .ref iA, .ref wA])), (wA, .inr (0, [.ref wA0, .int 0])), (wA0, .inl (cI, 120, .inl (fun _ => 0))), (oA, .inr (4, [.ref bA, .ref oA0, .ref oA1, .ref oA2, .ref oA3, .ref oA4, .int 0, .int 0, .int 0])), (oA0, .inl (cI, 60, .inl (fun _ => 0))), (oA1, .inl (cI, 60, .inl (fun _ => 0))), (oA2, .inl (cI, 60, .inl (fun _ => 0))), (oA3, .inl (cI, 60, .inl (fun _ => 0))), (oA4, .inl (cI, 60, .inl (fun _ => 0)))]) (cF_init l D cI cJ fA dA bA oA) rfl w_197 w_198 w_58 w_199 ⟨by decide +kernel, by decide +kernel, by decide +kernel⟩ [22] [0, 1, 2, 3, 4, 5, 6, 7, 8, 9, 10, 11, 12, 13, 14, 15, 16, 17, 18, 19, 20, 21] rfl rfl rfl rfl (by decide) ⟨rfl, rfl⟩ ⟨Nat.le_of_ble_eq_true rfl, Nat.le_of_ble_eq_true rfl⟩ rfl hl.1 (Nat.le_of_ble_eq_true rfl) ⟨Nat.le_of_ble_eq_true rfl, Nat.le_of_ble_eq_true rfl⟩ dP_init_88 rfl (fun w1 H locs hp hP hD hS => ?_)
  obtain ⟨fA0, fA1, rfl⟩ := hp
  have hP : va_P D cs [(pA, .inr (6, [.ref dA, .ref iA, .ref bA, .ref xA, .ref oA, .null])), (dA, .inr (1, [.ref dA0, .ref dA1, .ref dA2, .ref dA3, .ref dA4, .int 0, .int 0])), (dA0, .inl (cI, 6, .inl (fun _ => 0))), (dA1, .inl (cI, 8, .inl (fun _ => 0))), (dA2, .inl (cI, 8, .inl (fun _ => 0))), (dA3, .inl (cI, 8, .inl (fun _ => 0))), (dA4, .inl (cI, 8, .inl (fun _ => 0))), (iA, .inr (3, [.ref iA0, .ref iA1, .ref iA2, .int 0])), (iA0, .inl (cI, 12, .inl (fun _ => 0))), (iA1, .inl (cJ, 96, .inr (.inl (fun _ => 0)))), (iA2, .inl (cI, 96, .inl (fun _ => 0))), (bA, .inr (0, [.ref bA0, .int 0])), (bA0, .inl (cI, 120, .inl (fun _ => 0))), (xA, .inr (5, [.ref dA, .ref iA, .ref wA])), (wA, .inr (0, [.ref wA0, .int 0])), (wA0, .inl (cI, 120, .inl (fun _ => 0))), (oA, .inr (4, [.ref bA, .ref oA0, .ref oA1, .ref oA2, .ref oA3, .ref oA4, .int 0, .int 0, .int 0])), (oA0, .inl (cI, 60, .inl (fun _ => 0))), (oA1, .inl (cI, 60, .inl (fun _ => 0))), (oA2, .inl (cI, 60, .inl (fun _ => 0))), (oA3, .inl (cI, 60, .inl (fun _ => 0))), (oA4, .inl (cI, 60, .inl (fun _ => 0))), (fA, .inr (2, [.ref dA, .ref bA, .ref oA, .ref fA0, .ref fA1])), (fA0, .inl (cI, 30, .inl (fun _ => 0))), (fA1, .inl (cI, 30, .inl (fun _ => 0)))] H := hP
  have hD : va_D _ [(pA, .inr (6, [.ref dA, .ref iA, .ref bA, .ref xA, .ref oA, .null])), (dA, .inr (1, [.ref dA0, .ref dA1, .ref dA2, .ref dA3, .ref dA4, .int 0, .int 0])), (dA0, .inl (cI, 6, .inl (fun _ => 0))), (dA1, .inl (cI, 8, .inl (fun _ => 0))), (dA2, .inl (cI, 8, .inl (fun _ => 0))), (dA3, .inl (cI, 8, .inl (fun _ => 0))), (dA4, .inl (cI, 8, .inl (fun _ => 0))), (iA, .inr (3, [.ref iA0, .ref iA1, .ref iA2, .int 0])), (iA0, .inl (cI, 12, .inl (fun _ => 0))), (iA1, .inl (cJ, 96, .inr (.inl (fun _ => 0)))), (iA2, .inl (cI, 96, .inl (fun _ => 0))), (bA, .inr (0, [.ref bA0, .int 0])), (bA0, .inl (cI, 120, .inl (fun _ => 0))), (xA, .inr (5, [.ref dA, .ref iA, .ref wA])), (wA, .inr (0, [.ref wA0, .int 0])), (wA0, .inl (cI, 120, .inl (fun _ => 0))), (oA, .inr (4, [.ref bA, .ref oA0, .ref oA1, .ref oA2, .ref oA3, .ref oA4, .int 0, .int 0, .int 0])), (oA0, .inl (cI, 60, .inl (fun _ => 0))), (oA1, .inl (cI, 60, .inl (fun _ => 0))), (oA2, .inl (cI, 60, .inl (fun _ => 0))), (oA3, .inl (cI, 60, .inl (fun _ => 0))), (oA4, .inl (cI, 60, .inl (fun _ => 0))), (fA, .inr (2, [.ref dA, .ref bA, .ref oA, .ref fA0, .ref fA1])), (fA0, .inl (cI, 30, .inl (fun _ => 0))), (fA1, .inl (cI, 30, .inl (fun _ => 0)))] := hD
  refine pfF S hK hP hD hS hin 0 6 5 (v := .ref fA) zP_t u_zP zP_k zP_n w_222 rfl rfl (by decide) rfl rfl rfl rfl rfl (Nat.le_of_ble_eq_true rfl) dP_init_91 (fun H locs hP hD hS => ?_)
  have hP : va_P D cs [(pA, .inr (6, [.ref dA, .ref iA, .ref bA, .ref xA, .ref oA, .ref fA])), (dA, .inr (1, [.ref dA0, .ref dA1, .ref dA2, .ref dA3, .ref dA4, .int 0, .int 0])), (dA0, .inl (cI, 6, .inl (fun _ => 0))), (dA1, .inl (cI, 8, .inl (fun _ => 0))), (dA2, .inl (cI, 8, .inl (fun _ => 0))), (dA3, .inl (cI, 8, .inl (fun _ => 0))), (dA4, .inl (cI, 8, .inl (fun _ => 0))), (iA, .inr (3, [.ref iA0, .ref iA1, .ref iA2, .int 0])), (iA0, .inl (cI, 12, .inl (fun _ => 0))), (iA1, .inl (cJ, 96, .inr (.inl (fun _ => 0)))), (iA2, .inl (cI, 96, .inl (fun _ => 0))), (bA, .inr (0, [.ref bA0, .int 0])), (bA0, .inl (cI, 120, .inl (fun _ => 0))), (xA, .inr (5, [.ref dA, .ref iA, .ref wA])), (wA, .inr (0, [.ref wA0, .int 0])), (wA0, .inl (cI, 120, .inl (fun _ => 0))), (oA, .inr (4, [.ref bA, .ref oA0, .ref oA1, .ref oA2, .ref oA3, .ref oA4, .int 0, .int 0, .int 0])), (oA0, .inl (cI, 60, .inl (fun _ => 0))), (oA1, .inl (cI, 60, .inl (fun _ => 0))), (oA2, .inl (cI, 60, .inl (fun _ => 0))), (oA3, .inl (cI, 60, .inl (fun _ => 0))), (oA4, .inl (cI, 60, .inl (fun _ => 0))), (fA, .inr (2, [.ref dA, .ref bA, .ref oA, .ref fA0, .ref fA1])), (fA0, .inl (cI, 30, .inl (fun _ => 0))), (fA1, .inl (cI, 30, .inl (fun _ => 0)))] H := hP
  have hD : va_D _ [(pA, .inr (6, [.ref dA, .ref iA, .ref bA, .ref xA, .ref oA, .ref fA])), (dA, .inr (1, [.ref dA0, .ref dA1, .ref dA2, .ref dA3, .ref dA4, .int 0, .int 0])), (dA0, .inl (cI, 6, .inl (fun _ => 0))), (dA1, .inl (cI, 8, .inl (fun _ => 0))), (dA2, .inl (cI, 8, .inl (fun _ => 0))), (dA3, .inl (cI, 8, .inl (fun _ => 0))), (dA4, .inl (cI, 8, .inl (fun _ => 0))), (iA, .inr (3, [.ref iA0, .ref iA1, .ref iA2, .int 0])), (iA0, .inl (cI, 12, .inl (fun _ => 0))), (iA1, .inl (cJ, 96, .inr (.inl (fun _ => 0)))), (iA2, .inl (cI, 96, .inl (fun _ => 0))), (bA, .inr (0, [.ref bA0, .int 0])), (bA0, .inl (cI, 120, .inl (fun _ => 0))), (xA, .inr (5, [.ref dA, .ref iA, .ref wA])), (wA, .inr (0, [.ref wA0, .int 0])), (wA0, .inl (cI, 120, .inl (fun _ => 0))), (oA, .inr (4, [.ref bA, .ref oA0, .ref oA1, .ref oA2, .ref oA3, .ref oA4, .int 0, .int 0, .int 0])), (oA0, .inl (cI, 60, .inl (fun _ => 0))), (oA1, .inl (cI, 60, .inl (fun _ => 0))), (oA2, .inl (cI, 60, .inl (fun _ => 0))), (oA3, .inl (cI, 60, .inl (fun _ => 0))), (oA4, .inl (cI, 60, .inl (fun _ => 0))), (fA, .inr (2, [.ref dA, .ref bA, .ref oA, .ref fA0, .ref fA1])), (fA0, .inl (cI, 30, .inl (fun _ => 0))), (fA1, .inl (cI, 30, .inl (fun _ => 0)))] := hD
  exact nu_n S hr hlocks (hP.sub (ws' := [(pA, .inr (6, [.ref dA, .ref iA, .ref bA, .ref xA, .ref oA, .ref fA])), (dA, .inr (1, [.ref dA0, .ref dA1, .ref dA2, .ref dA3, .ref dA4, .int 0, .int 0])), (dA0, .inl (cI, 6, .inl (fun _ => 0))), (dA1, .inl (cI, 8, .inl (fun _ => 0))), (dA2, .inl (cI, 8, .inl (fun _ => 0))), (dA3, .inl (cI, 8, .inl (fun _ => 0))), (dA4, .inl (cI, 8, .inl (fun _ => 0))), (iA, .inr (3, [.ref iA0, .ref iA1, .ref iA2, .int 0])), (iA0, .inl (cI, 12, .inl (fun _ => 0))), (iA1, .inl (cJ, 96, .inr (.inl (fun _ => 0)))), (iA2, .inl (cI, 96, .inl (fun _ => 0))), (bA, .inr (0, [.ref bA0, .int 0])), (bA0, .inl (cI, 120, .inl (fun _ => 0))), (xA, .inr (5, [.ref dA, .ref iA, .ref wA])), (wA, .inr (0, [.ref wA0, .int 0])), (wA0, .inl (cI, 120, .inl (fun _ => 0))), (oA, .inr (4, [.ref bA, .ref oA0, .ref oA1, .ref oA2, .ref oA3, .ref oA4, .int 0, .int 0, .int 0])), (oA0, .inl (cI, 60, .inl (fun _ => 0))), (oA1, .inl (cI, 60, .inl (fun _ => 0))), (oA2, .inl (cI, 60, .inl (fun _ => 0))), (oA3, .inl (cI, 60, .inl (fun _ => 0))), (oA4, .inl (cI, 60, .inl (fun _ => 0))), (fA, .inr (2, [.ref dA, .ref bA, .ref oA, .ref fA0, .ref fA1])), (fA0, .inl (cI, 30, .inl (fun _ => 0))), (fA1, .inl (cI, 30, .inl (fun _ => 0)))]) [0, 1, 2, 3, 4, 5, 6, 7, 8, 9, 10, 11, 12, 13, 14, 15, 16, 17, 18, 19, 20, 21, 22, 23, 24] rfl) (hD.sub (ws' := [(pA, .inr (6, [.ref dA, .ref iA, .ref bA, .ref xA, .ref oA, .ref fA])), (dA, .inr (1, [.ref dA0, .ref dA1, .ref dA2, .ref dA3, .ref dA4, .int 0, .int 0])), (dA0, .inl (cI, 6, .inl (fun _ => 0))), (dA1, .inl (cI, 8, .inl (fun _ => 0))), (dA2, .inl (cI, 8, .inl (fun _ => 0))), (dA3, .inl (cI, 8, .inl (fun _ => 0))), (dA4, .inl (cI, 8, .inl (fun _ => 0))), (iA, .inr (3, [.ref iA0, .ref iA1, .ref iA2, .int 0])), (iA0, .inl (cI, 12, .inl (fun _ => 0))), (iA1, .inl (cJ, 96, .inr (.inl (fun _ => 0)))), (iA2, .inl (cI, 96, .inl (fun _ => 0))), (bA, .inr (0, [.ref bA0, .int 0])), (bA0, .inl (cI, 120, .inl (fun _ => 0))), (xA, .inr (5, [.ref dA, .ref iA, .ref wA])), (wA, .inr (0, [.ref wA0, .int 0])), (wA0, .inl (cI, 120, .inl (fun _ => 0))), (oA, .inr (4, [.ref bA, .ref oA0, .ref oA1, .ref oA2, .ref oA3, .ref oA4, .int 0, .int 0, .int 0])), (oA0, .inl (cI, 60, .inl (fun _ => 0))), (oA1, .inl (cI, 60, .inl (fun _ => 0))), (oA2, .inl (cI, 60, .inl (fun _ => 0))), (oA3, .inl (cI, 60, .inl (fun _ => 0))), (oA4, .inl (cI, 60, .inl (fun _ => 0))), (fA, .inr (2, [.ref dA, .ref bA, .ref oA, .ref fA0, .ref fA1])), (fA0, .inl (cI, 30, .inl (fun _ => 0))), (fA1, .inl (cI, 30, .inl (fun _ => 0)))]) [0, 1, 2, 3, 4, 5, 6, 7, 8, 9, 10, 11, 12, 13, 14, 15, 16, 17, 18, 19, 20, 21, 22, 23, 24] rfl rfl) hS dP_init_94 ⟨dA, dA0, dA1, dA2, dA3, dA4, iA, iA0, iA1, iA2, bA, bA0, xA, wA, wA0, oA, oA0, oA1, oA2, oA3, oA4, fA, fA0, fA1, rfl⟩ (Nat.le_of_ble_eq_true rfl) (Nat.le_of_ble_eq_true rfl)
set_option maxHeartbeats 4000000 in
set_option maxRecDepth 100000 in
theorem cM_init (l : Launch) (D : va_G) (cI cJ : ClassId) (mA : Nat) : Nu l yM_init bM_init 1 (rC 1 23 867) [.ref mA] D cI cJ [(mA, .inr (7, [.int 0, .null, .int 0, .null, .null, .null, .null, .int 0, .null, .null, .int 0, .null, .int 0, .int 0, .null, .int 0, .null, .null, .null, .int 0, .int 0, .int 0, .null, .null, .null, .null, .int 0, .null, .null, .null, .null, .null, .null, .int 0, .null]))] 23 867 (fun w1 => ∃ (mA0 mA1 mA2 mA3 mA4 mA5 mA6 mA7 mA8 mA9 mA10 mA11 mA12 mA13 mA14 mA15 mA16 mA17 mA18 mA19 mA20 mA21 mA22 : Nat), w1 = [(mA, .inr (7, [.int 0, .ref mA0, .int 0, .ref mA1, .ref mA2, .ref mA3, .ref mA4, .int 0, .ref mA5, .ref mA6, .int 0, .ref mA7, .int 0, .int 0, .ref mA8, .int 0, .ref mA9, .ref mA10, .ref mA11, .int 0, .int 0, .int 0, .ref mA12, .ref mA13, .ref mA14, .ref mA15, .int 0, .ref mA16, .ref mA17, .ref mA18, .ref mA19, .ref mA20, .ref mA21, .int 0, .ref mA22])), (mA0, .inl (cI, 6, .inl (fun _ => 0))), (mA1, .inl (cI, 8, .inl (fun _ => 0))), (mA2, .inl (cI, 8, .inl (fun _ => 0))), (mA3, .inl (cI, 8, .inl (fun _ => 0))), (mA4, .inl (cI, 8, .inl (fun _ => 0))), (mA5, .inl (cI, 12, .inl (fun _ => 0))), (mA6, .inl (cJ, 96, .inr (.inl (fun _ => 0)))), (mA7, .inl (cI, 120, .inl (fun _ => 0))), (mA8, .inl (cI, 120, .inl (fun _ => 0))), (mA9, .inl (cI, 5, .inl (fun _ => 0))), (mA10, .inl (cI, 5, .inl (fun _ => 0))), (mA11, .inl (cI, 5, .inl (fun _ => 0))), (mA12, .inl (cI, 25, .inl (fun _ => 0))), (mA13, .inl (cI, 25, .inl (fun _ => 0))), (mA14, .inl (cI, 25, .inl (fun _ => 0))), (mA15, .inl (cI, 25, .inl (fun _ => 0))), (mA16, .inl (cI, 60, .inl (fun _ => 0))), (mA17, .inl (cI, 60, .inl (fun _ => 0))), (mA18, .inl (cI, 60, .inl (fun _ => 0))), (mA19, .inl (cI, 60, .inl (fun _ => 0))), (mA20, .inl (cI, 60, .inl (fun _ => 0))), (mA21, .inl (cI, 60, .inl (fun _ => 0))), (mA22, .inl (cI, 6, .inl (fun _ => 0)))]) := by
  refine nu_of (by decide) rfl (Nat.le_of_ble_eq_true rfl) ?_
  intro p e s m below meth c ls S hr hlocks hin hN hK hP hD hl
  have hA : ∀ q : Nat, s.heap.size ≤ q → va_A [(mA, .inr (7, [.int 0, .null, .int 0, .null, .null, .null, .null, .int 0, .null, .null, .int 0, .null, .int 0, .int 0, .null, .int 0, .null, .null, .null, .int 0, .int 0, .int 0, .null, .null, .null, .null, .int 0, .null, .null, .null, .null, .null, .null, .int 0, .null]))] s.heap.size q := fun q h => Or.inr h
  have hS : va_S (va_A [(mA, .inr (7, [.int 0, .null, .int 0, .null, .null, .null, .null, .int 0, .null, .null, .int 0, .null, .int 0, .int 0, .null, .int 0, .null, .null, .null, .int 0, .int 0, .int 0, .null, .null, .null, .null, .int 0, .null, .null, .null, .null, .null, .null, .int 0, .null]))] s.heap.size) s.heap s.heap [] := va_S.rf
  have hx := S.1
  have hb := S.2.1
  have hl : lv_has ls 1 [(0, .ref mA)] := hl
  refine lv_aload_n hx hb dM_init_0 rfl (lv_at hl 0 rfl) ?_
  refine oi S (idx := 1) w_606 hl.1 (Nat.le_of_ble_eq_true rfl) (Nat.le_of_ble_eq_true rfl) dM_init_1 ?_
  refine lv_aload_n hx hb dM_init_4 rfl (lv_at hl 0 rfl) ?_
  refine lv_bipush (v := 6) hx hb dM_init_5 (by decide) ?_
  refine nwI S hK hP hD hS hA (N' := 6) (by decide) (by decide) (by decide) (Nat.le_of_ble_eq_true rfl) (Nat.le_of_ble_eq_true rfl) dM_init_7 (fun mA0 H hP hD hS => ?_)
  have hP : va_P D cs [(mA, .inr (7, [.int 0, .null, .int 0, .null, .null, .null, .null, .int 0, .null, .null, .int 0, .null, .int 0, .int 0, .null, .int 0, .null, .null, .null, .int 0, .int 0, .int 0, .null, .null, .null, .null, .int 0, .null, .null, .null, .null, .null, .null, .int 0, .null])), (mA0, .inl (cI, 6, .inl (fun _ => 0)))] H := hP
  have hD : va_D _ [(mA, .inr (7, [.int 0, .null, .int 0, .null, .null, .null, .null, .int 0, .null, .null, .int 0, .null, .int 0, .int 0, .null, .int 0, .null, .null, .null, .int 0, .int 0, .int 0, .null, .null, .null, .null, .int 0, .null, .null, .null, .null, .null, .null, .int 0, .null])), (mA0, .inl (cI, 6, .inl (fun _ => 0)))] := hD
  refine pf S hK hP hD hS 0 7 1 (v := .ref mA0) zM_t u_zM zM_k zM_n w_608 rfl rfl (by decide) rfl rfl rfl rfl (Nat.le_of_ble_eq_true rfl) dM_init_9 (fun H locs hP hD hS => ?_)
  have hP : va_P D cs [(mA, .inr (7, [.int 0, .ref mA0, .int 0, .null, .null, .null, .null, .int 0, .null, .null, .int 0, .null, .int 0, .int 0, .null, .int 0, .null, .null, .null, .int 0, .int 0, .int 0, .null, .null, .null, .null, .int 0, .null, .null, .null, .null, .null, .null, .int 0, .null])), (mA0, .inl (cI, 6, .inl (fun _ => 0)))] H := hP
  have hD : va_D _ [(mA, .inr (7, [.int 0, .ref mA0, .int 0, .null, .null, .null, .null, .int 0, .null, .null, .int 0, .null, .int 0, .int 0, .null, .int 0, .null, .null, .null, .int 0, .int 0, .int 0, .null, .null, .null, .null, .int 0, .null, .null, .null, .null, .null, .null, .int 0, .null])), (mA0, .inl (cI, 6, .inl (fun _ => 0)))] := hD
  refine lv_aload_n hx hb dM_init_12 rfl (lv_at hl 0 rfl) ?_
  refine lv_bipush (v := 8) hx hb dM_init_13 (by decide) ?_
  refine nwI S hK hP hD hS hA (N' := 8) (by decide) (by decide) (by decide) (Nat.le_of_ble_eq_true rfl) (Nat.le_of_ble_eq_true rfl) dM_init_15 (fun mA1 H hP hD hS => ?_)
  have hP : va_P D cs [(mA, .inr (7, [.int 0, .ref mA0, .int 0, .null, .null, .null, .null, .int 0, .null, .null, .int 0, .null, .int 0, .int 0, .null, .int 0, .null, .null, .null, .int 0, .int 0, .int 0, .null, .null, .null, .null, .int 0, .null, .null, .null, .null, .null, .null, .int 0, .null])), (mA0, .inl (cI, 6, .inl (fun _ => 0))), (mA1, .inl (cI, 8, .inl (fun _ => 0)))] H := hP
  have hD : va_D _ [(mA, .inr (7, [.int 0, .ref mA0, .int 0, .null, .null, .null, .null, .int 0, .null, .null, .int 0, .null, .int 0, .int 0, .null, .int 0, .null, .null, .null, .int 0, .int 0, .int 0, .null, .null, .null, .null, .int 0, .null, .null, .null, .null, .null, .null, .int 0, .null])), (mA0, .inl (cI, 6, .inl (fun _ => 0))), (mA1, .inl (cI, 8, .inl (fun _ => 0)))] := hD
  refine pf S hK hP hD hS 0 7 3 (v := .ref mA1) zM_t u_zM zM_k zM_n w_610 rfl rfl (by decide) rfl rfl rfl rfl (Nat.le_of_ble_eq_true rfl) dM_init_17 (fun H locs hP hD hS => ?_)
  have hP : va_P D cs [(mA, .inr (7, [.int 0, .ref mA0, .int 0, .ref mA1, .null, .null, .null, .int 0, .null, .null, .int 0, .null, .int 0, .int 0, .null, .int 0, .null, .null, .null, .int 0, .int 0, .int 0, .null, .null, .null, .null, .int 0, .null, .null, .null, .null, .null, .null, .int 0, .null])), (mA0, .inl (cI, 6, .inl (fun _ => 0))), (mA1, .inl (cI, 8, .inl (fun _ => 0)))] H := hP
  have hD : va_D _ [(mA, .inr (7, [.int 0, .ref mA0, .int 0, .ref mA1, .null, .null, .null, .int 0, .null, .null, .int 0, .null, .int 0, .int 0, .null, .int 0, .null, .null, .null, .int 0, .int 0, .int 0, .null, .null, .null, .null, .int 0, .null, .null, .null, .null, .null, .null, .int 0, .null])), (mA0, .inl (cI, 6, .inl (fun _ => 0))), (mA1, .inl (cI, 8, .inl (fun _ => 0)))] := hD
  refine lv_aload_n hx hb dM_init_20 rfl (lv_at hl 0 rfl) ?_
  refine lv_bipush (v := 8) hx hb dM_init_21 (by decide) ?_
  refine nwI S hK hP hD hS hA (N' := 8) (by decide) (by decide) (by decide) (Nat.le_of_ble_eq_true rfl) (Nat.le_of_ble_eq_true rfl) dM_init_23 (fun mA2 H hP hD hS => ?_)
  have hP : va_P D cs [(mA, .inr (7, [.int 0, .ref mA0, .int 0, .ref mA1, .null, .null, .null, .int 0, .null, .null, .int 0, .null, .int 0, .int 0, .null, .int 0, .null, .null, .null, .int 0, .int 0, .int 0, .null, .null, .null, .null, .int 0, .null, .null, .null, .null, .null, .null, .int 0, .null])), (mA0, .inl (cI, 6, .inl (fun _ => 0))), (mA1, .inl (cI, 8, .inl (fun _ => 0))), (mA2, .inl (cI, 8, .inl (fun _ => 0)))] H := hP
  have hD : va_D _ [(mA, .inr (7, [.int 0, .ref mA0, .int 0, .ref mA1, .null, .null, .null, .int 0, .null, .null, .int 0, .null, .int 0, .int 0, .null, .int 0, .null, .null, .null, .int 0, .int 0, .int 0, .null, .null, .null, .null, .int 0, .null, .null, .null, .null, .null, .null, .int 0, .null])), (mA0, .inl (cI, 6, .inl (fun _ => 0))), (mA1, .inl (cI, 8, .inl (fun _ => 0))), (mA2, .inl (cI, 8, .inl (fun _ => 0)))] := hD
  refine pf S hK hP hD hS 0 7 4 (v := .ref mA2) zM_t u_zM zM_k zM_n w_611 rfl rfl (by decide) rfl rfl rfl rfl (Nat.le_of_ble_eq_true rfl) dM_init_25 (fun H locs hP hD hS => ?_)
  have hP : va_P D cs [(mA, .inr (7, [.int 0, .ref mA0, .int 0, .ref mA1, .ref mA2, .null, .null, .int 0, .null, .null, .int 0, .null, .int 0, .int 0, .null, .int 0, .null, .null, .null, .int 0, .int 0, .int 0, .null, .null, .null, .null, .int 0, .null, .null, .null, .null, .null, .null, .int 0, .null])), (mA0, .inl (cI, 6, .inl (fun _ => 0))), (mA1, .inl (cI, 8, .inl (fun _ => 0))), (mA2, .inl (cI, 8, .inl (fun _ => 0)))] H := hP
  have hD : va_D _ [(mA, .inr (7, [.int 0, .ref mA0, .int 0, .ref mA1, .ref mA2, .null, .null, .int 0, .null, .null, .int 0, .null, .int 0, .int 0, .null, .int 0, .null, .null, .null, .int 0, .int 0, .int 0, .null, .null, .null, .null, .int 0, .null, .null, .null, .null, .null, .null, .int 0, .null])), (mA0, .inl (cI, 6, .inl (fun _ => 0))), (mA1, .inl (cI, 8, .inl (fun _ => 0))), (mA2, .inl (cI, 8, .inl (fun _ => 0)))] := hD
  refine lv_aload_n hx hb dM_init_28 rfl (lv_at hl 0 rfl) ?_
  refine lv_bipush (v := 8) hx hb dM_init_29 (by decide) ?_
  refine nwI S hK hP hD hS hA (N' := 8) (by decide) (by decide) (by decide) (Nat.le_of_ble_eq_true rfl) (Nat.le_of_ble_eq_true rfl) dM_init_31 (fun mA3 H hP hD hS => ?_)
  have hP : va_P D cs [(mA, .inr (7, [.int 0, .ref mA0, .int 0, .ref mA1, .ref mA2, .null, .null, .int 0, .null, .null, .int 0, .null, .int 0, .int 0, .null, .int 0, .null, .null, .null, .int 0, .int 0, .int 0, .null, .null, .null, .null, .int 0, .null, .null, .null, .null, .null, .null, .int 0, .null])), (mA0, .inl (cI, 6, .inl (fun _ => 0))), (mA1, .inl (cI, 8, .inl (fun _ => 0))), (mA2, .inl (cI, 8, .inl (fun _ => 0))), (mA3, .inl (cI, 8, .inl (fun _ => 0)))] H := hP
  have hD : va_D _ [(mA, .inr (7, [.int 0, .ref mA0, .int 0, .ref mA1, .ref mA2, .null, .null, .int 0, .null, .null, .int 0, .null, .int 0, .int 0, .null, .int 0, .null, .null, .null, .int 0, .int 0, .int 0, .null, .null, .null, .null, .int 0, .null, .null, .null, .null, .null, .null, .int 0, .null])), (mA0, .inl (cI, 6, .inl (fun _ => 0))), (mA1, .inl (cI, 8, .inl (fun _ => 0))), (mA2, .inl (cI, 8, .inl (fun _ => 0))), (mA3, .inl (cI, 8, .inl (fun _ => 0)))] := hD
  refine pf S hK hP hD hS 0 7 5 (v := .ref mA3) zM_t u_zM zM_k zM_n w_612 rfl rfl (by decide) rfl rfl rfl rfl (Nat.le_of_ble_eq_true rfl) dM_init_33 (fun H locs hP hD hS => ?_)
  have hP : va_P D cs [(mA, .inr (7, [.int 0, .ref mA0, .int 0, .ref mA1, .ref mA2, .ref mA3, .null, .int 0, .null, .null, .int 0, .null, .int 0, .int 0, .null, .int 0, .null, .null, .null, .int 0, .int 0, .int 0, .null, .null, .null, .null, .int 0, .null, .null, .null, .null, .null, .null, .int 0, .null])), (mA0, .inl (cI, 6, .inl (fun _ => 0))), (mA1, .inl (cI, 8, .inl (fun _ => 0))), (mA2, .inl (cI, 8, .inl (fun _ => 0))), (mA3, .inl (cI, 8, .inl (fun _ => 0)))] H := hP
  have hD : va_D _ [(mA, .inr (7, [.int 0, .ref mA0, .int 0, .ref mA1, .ref mA2, .ref mA3, .null, .int 0, .null, .null, .int 0, .null, .int 0, .int 0, .null, .int 0, .null, .null, .null, .int 0, .int 0, .int 0, .null, .null, .null, .null, .int 0, .null, .null, .null, .null, .null, .null, .int 0, .null])), (mA0, .inl (cI, 6, .inl (fun _ => 0))), (mA1, .inl (cI, 8, .inl (fun _ => 0))), (mA2, .inl (cI, 8, .inl (fun _ => 0))), (mA3, .inl (cI, 8, .inl (fun _ => 0)))] := hD
  refine lv_aload_n hx hb dM_init_36 rfl (lv_at hl 0 rfl) ?_
  refine lv_bipush (v := 8) hx hb dM_init_37 (by decide) ?_
  refine nwI S hK hP hD hS hA (N' := 8) (by decide) (by decide) (by decide) (Nat.le_of_ble_eq_true rfl) (Nat.le_of_ble_eq_true rfl) dM_init_39 (fun mA4 H hP hD hS => ?_)
  have hP : va_P D cs [(mA, .inr (7, [.int 0, .ref mA0, .int 0, .ref mA1, .ref mA2, .ref mA3, .null, .int 0, .null, .null, .int 0, .null, .int 0, .int 0, .null, .int 0, .null, .null, .null, .int 0, .int 0, .int 0, .null, .null, .null, .null, .int 0, .null, .null, .null, .null, .null, .null, .int 0, .null])), (mA0, .inl (cI, 6, .inl (fun _ => 0))), (mA1, .inl (cI, 8, .inl (fun _ => 0))), (mA2, .inl (cI, 8, .inl (fun _ => 0))), (mA3, .inl (cI, 8, .inl (fun _ => 0))), (mA4, .inl (cI, 8, .inl (fun _ => 0)))] H := hP
  have hD : va_D _ [(mA, .inr (7, [.int 0, .ref mA0, .int 0, .ref mA1, .ref mA2, .ref mA3, .null, .int 0, .null, .null, .int 0, .null, .int 0, .int 0, .null, .int 0, .null, .null, .null, .int 0, .int 0, .int 0, .null, .null, .null, .null, .int 0, .null, .null, .null, .null, .null, .null, .int 0, .null])), (mA0, .inl (cI, 6, .inl (fun _ => 0))), (mA1, .inl (cI, 8, .inl (fun _ => 0))), (mA2, .inl (cI, 8, .inl (fun _ => 0))), (mA3, .inl (cI, 8, .inl (fun _ => 0))), (mA4, .inl (cI, 8, .inl (fun _ => 0)))] := hD
  refine pf S hK hP hD hS 0 7 6 (v := .ref mA4) zM_t u_zM zM_k zM_n w_613 rfl rfl (by decide) rfl rfl rfl rfl (Nat.le_of_ble_eq_true rfl) dM_init_41 (fun H locs hP hD hS => ?_)
  have hP : va_P D cs [(mA, .inr (7, [.int 0, .ref mA0, .int 0, .ref mA1, .ref mA2, .ref mA3, .ref mA4, .int 0, .null, .null, .int 0, .null, .int 0, .int 0, .null, .int 0, .null, .null, .null, .int 0, .int 0, .int 0, .null, .null, .null, .null, .int 0, .null, .null, .null, .null, .null, .null, .int 0, .null])), (mA0, .inl (cI, 6, .inl (fun _ => 0))), (mA1, .inl (cI, 8, .inl (fun _ => 0))), (mA2, .inl (cI, 8, .inl (fun _ => 0))), (mA3, .inl (cI, 8, .inl (fun _ => 0))), (mA4, .inl (cI, 8, .inl (fun _ => 0)))] H := hP
  have hD : va_D _ [(mA, .inr (7, [.int 0, .ref mA0, .int 0, .ref mA1, .ref mA2, .ref mA3, .ref mA4, .int 0, .null, .null, .int 0, .null, .int 0, .int 0, .null, .int 0, .null, .null, .null, .int 0, .int 0, .int 0, .null, .null, .null, .null, .int 0, .null, .null, .null, .null, .null, .null, .int 0, .null])), (mA0, .inl (cI, 6, .inl (fun _ => 0))), (mA1, .inl (cI, 8, .inl (fun _ => 0))), (mA2, .inl (cI, 8, .inl (fun _ => 0))), (mA3, .inl (cI, 8, .inl (fun _ => 0))), (mA4, .inl (cI, 8, .inl (fun _ => 0)))] := hD
  refine lv_aload_n hx hb dM_init_44 rfl (lv_at hl 0 rfl) ?_
  refine lv_bipush (v := 12) hx hb dM_init_45 (by decide) ?_
  refine nwI S hK hP hD hS hA (N' := 12) (by decide) (by decide) (by decide) (Nat.le_of_ble_eq_true rfl) (Nat.le_of_ble_eq_true rfl) dM_init_47 (fun mA5 H hP hD hS => ?_)
  have hP : va_P D cs [(mA, .inr (7, [.int 0, .ref mA0, .int 0, .ref mA1, .ref mA2, .ref mA3, .ref mA4, .int 0, .null, .null, .int 0, .null, .int 0, .int 0, .null, .int 0, .null, .null, .null, .int 0, .int 0, .int 0, .null, .null, .null, .null, .int 0, .null, .null, .null, .null, .null, .null, .int 0, .null])), (mA0, .inl (cI, 6, .inl (fun _ => 0))), (mA1, .inl (cI, 8, .inl (fun _ => 0))), (mA2, .inl (cI, 8, .inl (fun _ => 0))), (mA3, .inl (cI, 8, .inl (fun _ => 0))), (mA4, .inl (cI, 8, .inl (fun _ => 0))), (mA5, .inl (cI, 12, .inl (fun _ => 0)))] H := hP
  have hD : va_D _ [(mA, .inr (7, [.int 0, .ref mA0, .int 0, .ref mA1, .ref mA2, .ref mA3, .ref mA4, .int 0, .null, .null, .int 0, .null, .int 0, .int 0, .null, .int 0, .null, .null, .null, .int 0, .int 0, .int 0, .null, .null, .null, .null, .int 0, .null, .null, .null, .null, .null, .null, .int 0, .null])), (mA0, .inl (cI, 6, .inl (fun _ => 0))), (mA1, .inl (cI, 8, .inl (fun _ => 0))), (mA2, .inl (cI, 8, .inl (fun _ => 0))), (mA3, .inl (cI, 8, .inl (fun _ => 0))), (mA4, .inl (cI, 8, .inl (fun _ => 0))), (mA5, .inl (cI, 12, .inl (fun _ => 0)))] := hD
  refine pf S hK hP hD hS 0 7 8 (v := .ref mA5) zM_t u_zM zM_k zM_n w_615 rfl rfl (by decide) rfl rfl rfl rfl (Nat.le_of_ble_eq_true rfl) dM_init_49 (fun H locs hP hD hS => ?_)
  have hP : va_P D cs [(mA, .inr (7, [.int 0, .ref mA0, .int 0, .ref mA1, .ref mA2, .ref mA3, .ref mA4, .int 0, .ref mA5, .null, .int 0, .null, .int 0, .int 0, .null, .int 0, .null, .null, .null, .int 0, .int 0, .int 0, .null, .null, .null, .null, .int 0, .null, .null, .null, .null, .null, .null, .int 0, .null])), (mA0, .inl (cI, 6, .inl (fun _ => 0))), (mA1, .inl (cI, 8, .inl (fun _ => 0))), (mA2, .inl (cI, 8, .inl (fun _ => 0))), (mA3, .inl (cI, 8, .inl (fun _ => 0))), (mA4, .inl (cI, 8, .inl (fun _ => 0))), (mA5, .inl (cI, 12, .inl (fun _ => 0)))] H := hP
  have hD : va_D _ [(mA, .inr (7, [.int 0, .ref mA0, .int 0, .ref mA1, .ref mA2, .ref mA3, .ref mA4, .int 0, .ref mA5, .null, .int 0, .null, .int 0, .int 0, .null, .int 0, .null, .null, .null, .int 0, .int 0, .int 0, .null, .null, .null, .null, .int 0, .null, .null, .null, .null, .null, .null, .int 0, .null])), (mA0, .inl (cI, 6, .inl (fun _ => 0))), (mA1, .inl (cI, 8, .inl (fun _ => 0))), (mA2, .inl (cI, 8, .inl (fun _ => 0))), (mA3, .inl (cI, 8, .inl (fun _ => 0))), (mA4, .inl (cI, 8, .inl (fun _ => 0))), (mA5, .inl (cI, 12, .inl (fun _ => 0)))] := hD
  refine lv_aload_n hx hb dM_init_52 rfl (lv_at hl 0 rfl) ?_
  refine lv_bipush (v := 96) hx hb dM_init_53 (by decide) ?_
  refine nwJ S hK hP hD hS hA (N' := 96) (by decide) (by decide) (by decide) (Nat.le_of_ble_eq_true rfl) (Nat.le_of_ble_eq_true rfl) dM_init_55 (fun mA6 H hP hD hS => ?_)
  have hP : va_P D cs [(mA, .inr (7, [.int 0, .ref mA0, .int 0, .ref mA1, .ref mA2, .ref mA3, .ref mA4, .int 0, .ref mA5, .null, .int 0, .null, .int 0, .int 0, .null, .int 0, .null, .null, .null, .int 0, .int 0, .int 0, .null, .null, .null, .null, .int 0, .null, .null, .null, .null, .null, .null, .int 0, .null])), (mA0, .inl (cI, 6, .inl (fun _ => 0))), (mA1, .inl (cI, 8, .inl (fun _ => 0))), (mA2, .inl (cI, 8, .inl (fun _ => 0))), (mA3, .inl (cI, 8, .inl (fun _ => 0))), (mA4, .inl (cI, 8, .inl (fun _ => 0))), (mA5, .inl (cI, 12, .inl (fun _ => 0))), (mA6, .inl (cJ, 96, .inr (.inl (fun _ => 0))))] H := hP
  have hD : va_D _ [(mA, .inr (7, [.int 0, .ref mA0, .int 0, .ref mA1, .ref mA2, .ref mA3, .ref mA4, .int 0, .ref mA5, .null, .int 0, .null, .int 0, .int 0, .null, .int 0, .null, .null, .null, .int 0, .int 0, .int 0, .null, .null, .null, .null, .int 0, .null, .null, .null, .null, .null, .null, .int 0, .null])), (mA0, .inl (cI, 6, .inl (fun _ => 0))), (mA1, .inl (cI, 8, .inl (fun _ => 0))), (mA2, .inl (cI, 8, .inl (fun _ => 0))), (mA3, .inl (cI, 8, .inl (fun _ => 0))), (mA4, .inl (cI, 8, .inl (fun _ => 0))), (mA5, .inl (cI, 12, .inl (fun _ => 0))), (mA6, .inl (cJ, 96, .inr (.inl (fun _ => 0))))] := hD
  refine pf S hK hP hD hS 0 7 9 (v := .ref mA6) zM_t u_zM zM_k zM_n w_616 rfl rfl (by decide) rfl rfl rfl rfl (Nat.le_of_ble_eq_true rfl) dM_init_57 (fun H locs hP hD hS => ?_)
  have hP : va_P D cs [(mA, .inr (7, [.int 0, .ref mA0, .int 0, .ref mA1, .ref mA2, .ref mA3, .ref mA4, .int 0, .ref mA5, .ref mA6, .int 0, .null, .int 0, .int 0, .null, .int 0, .null, .null, .null, .int 0, .int 0, .int 0, .null, .null, .null, .null, .int 0, .null, .null, .null, .null, .null, .null, .int 0, .null])), (mA0, .inl (cI, 6, .inl (fun _ => 0))), (mA1, .inl (cI, 8, .inl (fun _ => 0))), (mA2, .inl (cI, 8, .inl (fun _ => 0))), (mA3, .inl (cI, 8, .inl (fun _ => 0))), (mA4, .inl (cI, 8, .inl (fun _ => 0))), (mA5, .inl (cI, 12, .inl (fun _ => 0))), (mA6, .inl (cJ, 96, .inr (.inl (fun _ => 0))))] H := hP
  have hD : va_D _ [(mA, .inr (7, [.int 0, .ref mA0, .int 0, .ref mA1, .ref mA2, .ref mA3, .ref mA4, .int 0, .ref mA5, .ref mA6, .int 0, .null, .int 0, .int 0, .null, .int 0, .null, .null, .null, .int 0, .int 0, .int 0, .null, .null, .null, .null, .int 0, .null, .null, .null, .null, .null, .null, .int 0, .null])), (mA0, .inl (cI, 6, .inl (fun _ => 0))), (mA1, .inl (cI, 8, .inl (fun _ => 0))), (mA2, .inl (cI, 8, .inl (fun _ => 0))), (mA3, .inl (cI, 8, .inl (fun _ => 0))), (mA4, .inl (cI, 8, .inl (fun _ => 0))), (mA5, .inl (cI, 12, .inl (fun _ => 0))), (mA6, .inl (cJ, 96, .inr (.inl (fun _ => 0))))] := hD
  refine lv_aload_n hx hb dM_init_60 rfl (lv_at hl 0 rfl) ?_
  refine lv_bipush (v := 120) hx hb dM_init_61 (by decide) ?_
  refine nwI S hK hP hD hS hA (N' := 120) (by decide) (by decide) (by decide) (Nat.le_of_ble_eq_true rfl) (Nat.le_of_ble_eq_true rfl) dM_init_63 (fun mA7 H hP hD hS => ?_)
  have hP : va_P D cs [(mA, .inr (7, [.int 0, .ref mA0, .int 0, .ref mA1, .ref mA2, .ref mA3, .ref mA4, .int 0, .ref mA5, .ref mA6, .int 0, .null, .int 0, .int 0, .null, .int 0, .null, .null, .null, .int 0, .int 0, .int 0, .null, .null, .null, .null, .int 0, .null, .null, .null, .null, .null, .null, .int 0, .null])), (mA0, .inl (cI, 6, .inl (fun _ => 0))), (mA1, .inl (cI, 8, .inl (fun _ => 0))), (mA2, .inl (cI, 8, .inl (fun _ => 0))), (mA3, .inl (cI, 8, .inl (fun _ => 0))), (mA4, .inl (cI, 8, .inl (fun _ => 0))), (mA5, .inl (cI, 12, .inl (fun _ => 0))), (mA6, .inl (cJ, 96, .inr (.inl (fun _ => 0)))), (mA7, .inl (cI, 120, .inl (fun _ => 0)))] H := hP
  have hD : va_D _ [(mA, .inr (7, [.int 0, .ref mA0, .int 0, .ref mA1, .ref mA2, .ref mA3, .ref mA4, .int 0, .ref mA5, .ref mA6, .int 0, .null, .int 0, .int 0, .null, .int 0, .null, .null, .null, .int 0, .int 0, .int 0, .null, .null, .null, .null, .int 0, .null, .null, .null, .null, .null, .null, .int 0, .null])), (mA0, .inl (cI, 6, .inl (fun _ => 0))), (mA1, .inl (cI, 8, .inl (fun _ => 0))), (mA2, .inl (cI, 8, .inl (fun _ => 0))), (mA3, .inl (cI, 8, .inl (fun _ => 0))), (mA4, .inl (cI, 8, .inl (fun _ => 0))), (mA5, .inl (cI, 12, .inl (fun _ => 0))), (mA6, .inl (cJ, 96, .inr (.inl (fun _ => 0)))), (mA7, .inl (cI, 120, .inl (fun _ => 0)))] := hD
  refine pf S hK hP hD hS 0 7 11 (v := .ref mA7) zM_t u_zM zM_k zM_n w_618 rfl rfl (by decide) rfl rfl rfl rfl (Nat.le_of_ble_eq_true rfl) dM_init_65 (fun H locs hP hD hS => ?_)
  have hP : va_P D cs [(mA, .inr (7, [.int 0, .ref mA0, .int 0, .ref mA1, .ref mA2, .ref mA3, .ref mA4, .int 0, .ref mA5, .ref mA6, .int 0, .ref mA7, .int 0, .int 0, .null, .int 0, .null, .null, .null, .int 0, .int 0, .int 0, .null, .null, .null, .null, .int 0, .null, .null, .null, .null, .null, .null, .int 0, .null])), (mA0, .inl (cI, 6, .inl (fun _ => 0))), (mA1, .inl (cI, 8, .inl (fun _ => 0))), (mA2, .inl (cI, 8, .inl (fun _ => 0))), (mA3, .inl (cI, 8, .inl (fun _ => 0))), (mA4, .inl (cI, 8, .inl (fun _ => 0))), (mA5, .inl (cI, 12, .inl (fun _ => 0))), (mA6, .inl (cJ, 96, .inr (.inl (fun _ => 0)))), (mA7, .inl (cI, 120, .inl (fun _ => 0)))] H := hP
  have hD : va_D _ [(mA, .inr (7, [.int 0, .ref mA0, .int 0, .ref mA1, .ref mA2, .ref mA3, .ref mA4, .int 0, .ref mA5, .ref mA6, .int 0, .ref mA7, .int 0, .int 0, .null, .int 0, .null, .null, .null, .int 0, .int 0, .int 0, .null, .null, .null, .null, .int 0, .null, .null, .null, .null, .null, .null, .int 0, .null])), (mA0, .inl (cI, 6, .inl (fun _ => 0))), (mA1, .inl (cI, 8, .inl (fun _ => 0))), (mA2, .inl (cI, 8, .inl (fun _ => 0))), (mA3, .inl (cI, 8, .inl (fun _ => 0))), (mA4, .inl (cI, 8, .inl (fun _ => 0))), (mA5, .inl (cI, 12, .inl (fun _ => 0))), (mA6, .inl (cJ, 96, .inr (.inl (fun _ => 0)))), (mA7, .inl (cI, 120, .inl (fun _ => 0)))] := hD
  refine lv_aload_n hx hb dM_init_68 rfl (lv_at hl 0 rfl) ?_
  refine lv_bipush (v := 120) hx hb dM_init_69 (by decide) ?_
  refine nwI S hK hP hD hS hA (N' := 120) (by decide) (by decide) (by decide) (Nat.le_of_ble_eq_true rfl) (Nat.le_of_ble_eq_true rfl) dM_init_71 (fun mA8 H hP hD hS => ?_)
  have hP : va_P D cs [(mA, .inr (7, [.int 0, .ref mA0, .int 0, .ref mA1, .ref mA2, .ref mA3, .ref mA4, .int 0, .ref mA5, .ref mA6, .int 0, .ref mA7, .int 0, .int 0, .null, .int 0, .null, .null, .null, .int 0, .int 0, .int 0, .null, .null, .null, .null, .int 0, .null, .null, .null, .null, .null, .null, .int 0, .null])), (mA0, .inl (cI, 6, .inl (fun _ => 0))), (mA1, .inl (cI, 8, .inl (fun _ => 0))), (mA2, .inl (cI, 8, .inl (fun _ => 0))), (mA3, .inl (cI, 8, .inl (fun _ => 0))), (mA4, .inl (cI, 8, .inl (fun _ => 0))), (mA5, .inl (cI, 12, .inl (fun _ => 0))), (mA6, .inl (cJ, 96, .inr (.inl (fun _ => 0)))), (mA7, .inl (cI, 120, .inl (fun _ => 0))), (mA8, .inl (cI, 120, .inl (fun _ => 0)))] H := hP
  have hD : va_D _ [(mA, .inr (7, [.int 0, .ref mA0, .int 0, .ref mA1, .ref mA2, .ref mA3, .ref mA4, .int 0, .ref mA5, .ref mA6, .int 0, .ref mA7, .int 0, .int 0, .null, .int 0, .null, .null, .null, .int 0, .int 0, .int 0, .null, .null, .null, .null, .int 0, .null, .null, .null, .null, .null, .null, .int 0, .null])), (mA0, .inl (cI, 6, .inl (fun _ => 0))), (mA1, .inl (cI, 8, .inl (fun _ => 0))), (mA2, .inl (cI, 8, .inl (fun _ => 0))), (mA3, .inl (cI, 8, .inl (fun _ => 0))), (mA4, .inl (cI, 8, .inl (fun _ => 0))), (mA5, .inl (cI, 12, .inl (fun _ => 0))), (mA6, .inl (cJ, 96, .inr (.inl (fun _ => 0)))), (mA7, .inl (cI, 120, .inl (fun _ => 0))), (mA8, .inl (cI, 120, .inl (fun _ => 0)))] := hD
  refine pf S hK hP hD hS 0 7 14 (v := .ref mA8) zM_t u_zM zM_k zM_n w_621 rfl rfl (by decide) rfl rfl rfl rfl (Nat.le_of_ble_eq_true rfl) dM_init_73 (fun H locs hP hD hS => ?_)
  have hP : va_P D cs [(mA, .inr (7, [.int 0, .ref mA0, .int 0, .ref mA1, .ref mA2, .ref mA3, .ref mA4, .int 0, .ref mA5, .ref mA6, .int 0, .ref mA7, .int 0, .int 0, .ref mA8, .int 0, .null, .null, .null, .int 0, .int 0, .int 0, .null, .null, .null, .null, .int 0, .null, .null, .null, .null, .null, .null, .int 0, .null])), (mA0, .inl (cI, 6, .inl (fun _ => 0))), (mA1, .inl (cI, 8, .inl (fun _ => 0))), (mA2, .inl (cI, 8, .inl (fun _ => 0))), (mA3, .inl (cI, 8, .inl (fun _ => 0))), (mA4, .inl (cI, 8, .inl (fun _ => 0))), (mA5, .inl (cI, 12, .inl (fun _ => 0))), (mA6, .inl (cJ, 96, .inr (.inl (fun _ => 0)))), (mA7, .inl (cI, 120, .inl (fun _ => 0))), (mA8, .inl (cI, 120, .inl (fun _ => 0)))] H := hP
  have hD : va_D _ [(mA, .inr (7, [.int 0, .ref mA0, .int 0, .ref mA1, .ref mA2, .ref mA3, .ref mA4, .int 0, .ref mA5, .ref mA6, .int 0, .ref mA7, .int 0, .int 0, .ref mA8, .int 0, .null, .null, .null, .int 0, .int 0, .int 0, .null, .null, .null, .null, .int 0, .null, .null, .null, .null, .null, .null, .int 0, .null])), (mA0, .inl (cI, 6, .inl (fun _ => 0))), (mA1, .inl (cI, 8, .inl (fun _ => 0))), (mA2, .inl (cI, 8, .inl (fun _ => 0))), (mA3, .inl (cI, 8, .inl (fun _ => 0))), (mA4, .inl (cI, 8, .inl (fun _ => 0))), (mA5, .inl (cI, 12, .inl (fun _ => 0))), (mA6, .inl (cJ, 96, .inr (.inl (fun _ => 0)))), (mA7, .inl (cI, 120, .inl (fun _ => 0))), (mA8, .inl (cI, 120, .inl (fun _ => 0)))] := hD
  refine lv_aload_n hx hb dM_init_76 rfl (lv_at hl 0 rfl) ?_
  refine lv_iconst (v := 5) hx hb dM_init_77 (by decide) ?_
  refine nwI S hK hP hD hS hA (N' := 5) (by decide) (by decide) (by decide) (Nat.le_of_ble_eq_true rfl) (Nat.le_of_ble_eq_true rfl) dM_init_78 (fun mA9 H hP hD hS => ?_)
  have hP : va_P D cs [(mA, .inr (7, [.int 0, .ref mA0, .int 0, .ref mA1, .ref mA2, .ref mA3, .ref mA4, .int 0, .ref mA5, .ref mA6, .int 0, .ref mA7, .int 0, .int 0, .ref mA8, .int 0, .null, .null, .null, .int 0, .int 0, .int 0, .null, .null, .null, .null, .int 0, .null, .null, .null, .null, .null, .null, .int 0, .null])), (mA0, .inl (cI, 6, .inl (fun _ => 0))), (mA1, .inl (cI, 8, .inl (fun _ => 0))), (mA2, .inl (cI, 8, .inl (fun _ => 0))), (mA3, .inl (cI, 8, .inl (fun _ => 0))), (mA4, .inl (cI, 8, .inl (fun _ => 0))), (mA5, .inl (cI, 12, .inl (fun _ => 0))), (mA6, .inl (cJ, 96, .inr (.inl (fun _ => 0)))), (mA7, .inl (cI, 120, .inl (fun _ => 0))), (mA8, .inl (cI, 120, .inl (fun _ => 0))), (mA9, .inl (cI, 5, .inl (fun _ => 0)))] H := hP
  have hD : va_D _ [(mA, .inr (7, [.int 0, .ref mA0, .int 0, .ref mA1, .ref mA2, .ref mA3, .ref mA4, .int 0, .ref mA5, .ref mA6, .int 0, .ref mA7, .int 0, .int 0, .ref mA8, .int 0, .null, .null, .null, .int 0, .int 0, .int 0, .null, .null, .null, .null, .int 0, .null, .null, .null, .null, .null, .null, .int 0, .null])), (mA0, .inl (cI, 6, .inl (fun _ => 0))), (mA1, .inl (cI, 8, .inl (fun _ => 0))), (mA2, .inl (cI, 8, .inl (fun _ => 0))), (mA3, .inl (cI, 8, .inl (fun _ => 0))), (mA4, .inl (cI, 8, .inl (fun _ => 0))), (mA5, .inl (cI, 12, .inl (fun _ => 0))), (mA6, .inl (cJ, 96, .inr (.inl (fun _ => 0)))), (mA7, .inl (cI, 120, .inl (fun _ => 0))), (mA8, .inl (cI, 120, .inl (fun _ => 0))), (mA9, .inl (cI, 5, .inl (fun _ => 0)))] := hD
  refine pf S hK hP hD hS 0 7 16 (v := .ref mA9) zM_t u_zM zM_k zM_n w_623 rfl rfl (by decide) rfl rfl rfl rfl (Nat.le_of_ble_eq_true rfl) dM_init_80 (fun H locs hP hD hS => ?_)
  have hP : va_P D cs [(mA, .inr (7, [.int 0, .ref mA0, .int 0, .ref mA1, .ref mA2, .ref mA3, .ref mA4, .int 0, .ref mA5, .ref mA6, .int 0, .ref mA7, .int 0, .int 0, .ref mA8, .int 0, .ref mA9, .null, .null, .int 0, .int 0, .int 0, .null, .null, .null, .null, .int 0, .null, .null, .null, .null, .null, .null, .int 0, .null])), (mA0, .inl (cI, 6, .inl (fun _ => 0))), (mA1, .inl (cI, 8, .inl (fun _ => 0))), (mA2, .inl (cI, 8, .inl (fun _ => 0))), (mA3, .inl (cI, 8, .inl (fun _ => 0))), (mA4, .inl (cI, 8, .inl (fun _ => 0))), (mA5, .inl (cI, 12, .inl (fun _ => 0))), (mA6, .inl (cJ, 96, .inr (.inl (fun _ => 0)))), (mA7, .inl (cI, 120, .inl (fun _ => 0))), (mA8, .inl (cI, 120, .inl (fun _ => 0))), (mA9, .inl (cI, 5, .inl (fun _ => 0)))] H := hP
  have hD : va_D _ [(mA, .inr (7, [.int 0, .ref mA0, .int 0, .ref mA1, .ref mA2, .ref mA3, .ref mA4, .int 0, .ref mA5, .ref mA6, .int 0, .ref mA7, .int 0, .int 0, .ref mA8, .int 0, .ref mA9, .null, .null, .int 0, .int 0, .int 0, .null, .null, .null, .null, .int 0, .null, .null, .null, .null, .null, .null, .int 0, .null])), (mA0, .inl (cI, 6, .inl (fun _ => 0))), (mA1, .inl (cI, 8, .inl (fun _ => 0))), (mA2, .inl (cI, 8, .inl (fun _ => 0))), (mA3, .inl (cI, 8, .inl (fun _ => 0))), (mA4, .inl (cI, 8, .inl (fun _ => 0))), (mA5, .inl (cI, 12, .inl (fun _ => 0))), (mA6, .inl (cJ, 96, .inr (.inl (fun _ => 0)))), (mA7, .inl (cI, 120, .inl (fun _ => 0))), (mA8, .inl (cI, 120, .inl (fun _ => 0))), (mA9, .inl (cI, 5, .inl (fun _ => 0)))] := hD
  refine lv_aload_n hx hb dM_init_83 rfl (lv_at hl 0 rfl) ?_
  refine lv_iconst (v := 5) hx hb dM_init_84 (by decide) ?_
  refine nwI S hK hP hD hS hA (N' := 5) (by decide) (by decide) (by decide) (Nat.le_of_ble_eq_true rfl) (Nat.le_of_ble_eq_true rfl) dM_init_85 (fun mA10 H hP hD hS => ?_)
  have hP : va_P D cs [(mA, .inr (7, [.int 0, .ref mA0, .int 0, .ref mA1, .ref mA2, .ref mA3, .ref mA4, .int 0, .ref mA5, .ref mA6, .int 0, .ref mA7, .int 0, .int 0, .ref mA8, .int 0, .ref mA9, .null, .null, .int 0, .int 0, .int 0, .null, .null, .null, .null, .int 0, .null, .null, .null, .null, .null, .null, .int 0, .null])), (mA0, .inl (cI, 6, .inl (fun _ => 0))), (mA1, .inl (cI, 8, .inl (fun _ => 0))), (mA2, .inl (cI, 8, .inl (fun _ => 0))), (mA3, .inl (cI, 8, .inl (fun _ => 0))), (mA4, .inl (cI, 8, .inl (fun _ => 0))), (mA5, .inl (cI, 12, .inl (fun _ => 0))), (mA6, .inl (cJ, 96, .inr (.inl (fun _ => 0)))), (mA7, .inl (cI, 120, .inl (fun _ => 0))), (mA8, .inl (cI, 120, .inl (fun _ => 0))), (mA9, .inl (cI, 5, .inl (fun _ => 0))), (mA10, .inl (cI, 5, .inl (fun _ => 0)))] H := hP
  have hD : va_D _ [(mA, .inr (7, [.int 0, .ref mA0, .int 0, .ref mA1, .ref mA2, .ref mA3, .ref mA4, .int 0, .ref mA5, .ref mA6, .int 0, .ref mA7, .int 0, .int 0, .ref mA8, .int 0, .ref mA9, .null, .null, .int 0, .int 0, .int 0, .null, .null, .null, .null, .int 0, .null, .null, .null, .null, .null, .null, .int 0, .null])), (mA0, .inl (cI, 6, .inl (fun _ => 0))), (mA1, .inl (cI, 8, .inl (fun _ => 0))), (mA2, .inl (cI, 8, .inl (fun _ => 0))), (mA3, .inl (cI, 8, .inl (fun _ => 0))), (mA4, .inl (cI, 8, .inl (fun _ => 0))), (mA5, .inl (cI, 12, .inl (fun _ => 0))), (mA6, .inl (cJ, 96, .inr (.inl (fun _ => 0)))), (mA7, .inl (cI, 120, .inl (fun _ => 0))), (mA8, .inl (cI, 120, .inl (fun _ => 0))), (mA9, .inl (cI, 5, .inl (fun _ => 0))), (mA10, .inl (cI, 5, .inl (fun _ => 0)))] := hD
  refine pf S hK hP hD hS 0 7 17 (v := .ref mA10) zM_t u_zM zM_k zM_n w_624 rfl rfl (by decide) rfl rfl rfl rfl (Nat.le_of_ble_eq_true rfl) dM_init_87 (fun H locs hP hD hS => ?_)
  have hP : va_P D cs [(mA, .inr (7, [.int 0, .ref mA0, .int 0, .ref mA1, .ref mA2, .ref mA3, .ref mA4, .int 0, .ref mA5, .ref mA6, .int 0, .ref mA7, .int 0, .int 0, .ref mA8, .int 0, .ref mA9, .ref mA10, .null, .int 0, .int 0, .int 0, .null, .null, .null, .null, .int 0, .null, .null, .null, .null, .null, .null, .int 0, .null])), (mA0, .inl (cI, 6, .inl (fun _ => 0))), (mA1, .inl (cI, 8, .inl (fun _ => 0))), (mA2, .inl (cI, 8, .inl (fun _ => 0))), (mA3, .inl (cI, 8, .inl (fun _ => 0))), (mA4, .inl (cI, 8, .inl (fun _ => 0))), (mA5, .inl (cI, 12, .inl (fun _ => 0))), (mA6, .inl (cJ, 96, .inr (.inl (fun _ => 0)))), (mA7, .inl (cI, 120, .inl (fun _ => 0))), (mA8, .inl (cI, 120, .inl (fun _ => 0))), (mA9, .inl (cI, 5, .inl (fun _ => 0))), (mA10, .inl (cI, 5, .inl (fun _ => 0)))] H := hP
  have hD : va_D _ [(mA, .inr (7, [.int 0, .ref mA0, .int 0, .ref mA1, .ref mA2, .ref mA3, .ref mA4, .int 0, .ref mA5, .ref mA6, .int 0, .ref mA7, .int 0, .int 0, .ref mA8, .int 0, .ref mA9, .ref mA10, .null, .int 0, .int 0, .int 0, .null, .null, .null, .null, .int 0, .null, .null, .null, .null, .null, .null, .int 0, .null])), (mA0, .inl (cI, 6, .inl (fun _ => 0))), (mA1, .inl (cI, 8, .inl (fun _ => 0))), (mA2, .inl (cI, 8, .inl (fun _ => 0))), (mA3, .inl (cI, 8, .inl (fun _ => 0))), (mA4, .inl (cI, 8, .inl (fun _ => 0))), (mA5, .inl (cI, 12, .inl (fun _ => 0))), (mA6, .inl (cJ, 96, .inr (.inl (fun _ => 0)))), (mA7, .inl (cI, 120, .inl (fun _ => 0))), (mA8, .inl (cI, 120, .inl (fun _ => 0))), (mA9, .inl (cI, 5, .inl (fun _ => 0))), (mA10, .inl (cI, 5, .inl (fun _ => 0)))] := hD
  refine lv_aload_n hx hb dM_init_90 rfl (lv_at hl 0 rfl) ?_
  refine lv_iconst (v := 5) hx hb dM_init_91 (by decide) ?_
  refine nwI S hK hP hD hS hA (N' := 5) (by decide) (by decide) (by decide) (Nat.le_of_ble_eq_true rfl) (Nat.le_of_ble_eq_true rfl) dM_init_92 (fun mA11 H hP hD hS => ?_)
  have hP : va_P D cs [(mA, .inr (7, [.int 0, .ref mA0, .int 0, .ref mA1, .ref mA2, .ref mA3, .ref mA4, .int 0, .ref mA5, .ref mA6, .int 0, .ref mA7, .int 0, .int 0, .ref mA8, .int 0, .ref mA9, .ref mA10, .null, .int 0, .int 0, .int 0, .null, .null, .null, .null, .int 0, .null, .null, .null, .null, .null, .null, .int 0, .null])), (mA0, .inl (cI, 6, .inl (fun _ => 0))), (mA1, .inl (cI, 8, .inl (fun _ => 0))), (mA2, .inl (cI, 8, .inl (fun _ => 0))), (mA3, .inl (cI, 8, .inl (fun _ => 0))), (mA4, .inl (cI, 8, .inl (fun _ => 0))), (mA5, .inl (cI, 12, .inl (fun _ => 0))), (mA6, .inl (cJ, 96, .inr (.inl (fun _ => 0)))), (mA7, .inl (cI, 120, .inl (fun _ => 0))), (mA8, .inl (cI, 120, .inl (fun _ => 0))), (mA9, .inl (cI, 5, .inl (fun _ => 0))), (mA10, .inl (cI, 5, .inl (fun _ => 0))), (mA11, .inl (cI, 5, .inl (fun _ => 0)))] H := hP
  have hD : va_D _ [(mA, .inr (7, [.int 0, .ref mA0, .int 0, .ref mA1, .ref mA2, .ref mA3, .ref mA4, .int 0, .ref mA5, .ref mA6, .int 0, .ref mA7, .int 0, .int 0, .ref mA8, .int 0, .ref mA9, .ref mA10, .null, .int 0, .int 0, .int 0, .null, .null, .null, .null, .int 0, .null, .null, .null, .null, .null, .null, .int 0, .null])), (mA0, .inl (cI, 6, .inl (fun _ => 0))), (mA1, .inl (cI, 8, .inl (fun _ => 0))), (mA2, .inl (cI, 8, .inl (fun _ => 0))), (mA3, .inl (cI, 8, .inl (fun _ => 0))), (mA4, .inl (cI, 8, .inl (fun _ => 0))), (mA5, .inl (cI, 12, .inl (fun _ => 0))), (mA6, .inl (cJ, 96, .inr (.inl (fun _ => 0)))), (mA7, .inl (cI, 120, .inl (fun _ => 0))), (mA8, .inl (cI, 120, .inl (fun _ => 0))), (mA9, .inl (cI, 5, .inl (fun _ => 0))), (mA10, .inl (cI, 5, .inl (fun _ => 0))), (mA11, .inl (cI, 5, .inl (fun _ => 0)))] := hD
  refine pf S hK hP hD hS 0 7 18 (v := .ref mA11) zM_t u_zM zM_k zM_n w_625 rfl rfl (by decide) rfl rfl rfl rfl (Nat.le_of_ble_eq_true rfl) dM_init_94 (fun H locs hP hD hS => ?_)
  have hP : va_P D cs [(mA, .inr (7, [.int 0, .ref mA0, .int 0, .ref mA1, .ref mA2, .ref mA3, .ref mA4, .int 0, .ref mA5, .ref mA6, .int 0, .ref mA7, .int 0, .int 0, .ref mA8, .int 0, .ref mA9, .ref mA10, .ref mA11, .int 0, .int 0, .int 0, .null, .null, .null, .null, .int 0, .null, .null, .null, .null, .null, .null, .int 0, .null])), (mA0, .inl (cI, 6, .inl (fun _ => 0))), (mA1, .inl (cI, 8, .inl (fun _ => 0))), (mA2, .inl (cI, 8, .inl (fun _ => 0))), (mA3, .inl (cI, 8, .inl (fun _ => 0))), (mA4, .inl (cI, 8, .inl (fun _ => 0))), (mA5, .inl (cI, 12, .inl (fun _ => 0))), (mA6, .inl (cJ, 96, .inr (.inl (fun _ => 0)))), (mA7, .inl (cI, 120, .inl (fun _ => 0))), (mA8, .inl (cI, 120, .inl (fun _ => 0))), (mA9, .inl (cI, 5, .inl (fun _ => 0))), (mA10, .inl (cI, 5, .inl (fun _ => 0))), (mA11, .inl (cI, 5, .inl (fun _ => 0)))] H := hP
  have hD : va_D _ [(mA, .inr (7, [.int 0, .ref mA0, .int 0, .ref mA1, .ref mA2, .ref mA3, .ref mA4, .int 0, .ref mA5, .ref mA6, .int 0, .ref mA7, .int 0, .int 0, .ref mA8, .int 0, .ref mA9, .ref mA10, .ref mA11, .int 0, .int 0, .int 0, .null, .null, .null, .null, .int 0, .null, .null, .null, .null, .null, .null, .int 0, .null])), (mA0, .inl (cI, 6, .inl (fun _ => 0))), (mA1, .inl (cI, 8, .inl (fun _ => 0))), (mA2, .inl (cI, 8, .inl (fun _ => 0))), (mA3, .inl (cI, 8, .inl (fun _ => 0))), (mA4, .inl (cI, 8, .inl (fun _ => 0))), (mA5, .inl (cI, 12, .inl (fun _ => 0))), (mA6, .inl (cJ, 96, .inr (.inl (fun _ => 0)))), (mA7, .inl (cI, 120, .inl (fun _ => 0))), (mA8, .inl (cI, 120, .inl (fun _ => 0))), (mA9, .inl (cI, 5, .inl (fun _ => 0))), (mA10, .inl (cI, 5, .inl (fun _ => 0))), (mA11, .inl (cI, 5, .inl (fun _ => 0)))] := hD
  refine lv_aload_n hx hb dM_init_97 rfl (lv_at hl 0 rfl) ?_
  refine lv_bipush (v := 25) hx hb dM_init_98 (by decide) ?_
  refine nwI S hK hP hD hS hA (N' := 25) (by decide) (by decide) (by decide) (Nat.le_of_ble_eq_true rfl) (Nat.le_of_ble_eq_true rfl) dM_init_100 (fun mA12 H hP hD hS => ?_)
  have hP : va_P D cs [(mA, .inr (7, [.int 0, .ref mA0, .int 0, .ref mA1, .ref mA2, .ref mA3, .ref mA4, .int 0, .ref mA5, .ref mA6, .int 0, .ref mA7, .int 0, .int 0, .ref mA8, .int 0, .ref mA9, .ref mA10, .ref mA11, .int 0, .int 0, .int 0, .null, .null, .null, .null, .int 0, .null, .null, .null, .null, .null, .null, .int 0, .null])), (mA0, .inl (cI, 6, .inl (fun _ => 0))), (mA1, .inl (cI, 8, .inl (fun _ => 0))), (mA2, .inl (cI, 8, .inl (fun _ => 0))), (mA3, .inl (cI, 8, .inl (fun _ => 0))), (mA4, .inl (cI, 8, .inl (fun _ => 0))), (mA5, .inl (cI, 12, .inl (fun _ => 0))), (mA6, .inl (cJ, 96, .inr (.inl (fun _ => 0)))), (mA7, .inl (cI, 120, .inl (fun _ => 0))), (mA8, .inl (cI, 120, .inl (fun _ => 0))), (mA9, .inl (cI, 5, .inl (fun _ => 0))), (mA10, .inl (cI, 5, .inl (fun _ => 0))), (mA11, .inl (cI, 5, .inl (fun _ => 0))), (mA12, .inl (cI, 25, .inl (fun _ => 0)))] H := hP
  have hD : va_D _ [(mA, .inr (7, [.int 0, .ref mA0, .int 0, .ref mA1, .ref mA2, .ref mA3, .ref mA4, .int 0, .ref mA5, .ref mA6, .int 0, .ref mA7, .int 0, .int 0, .ref mA8, .int 0, .ref mA9, .ref mA10, .ref mA11, .int 0, .int 0, .int 0, .null, .null, .null, .null, .int 0, .null, .null, .null, .null, .null, .null, .int 0, .null])), (mA0, .inl (cI, 6, .inl (fun _ => 0))), (mA1, .inl (cI, 8, .inl (fun _ => 0))), (mA2, .inl (cI, 8, .inl (fun _ => 0))), (mA3, .inl (cI, 8, .inl (fun _ => 0))), (mA4, .inl (cI, 8, .inl (fun _ => 0))), (mA5, .inl (cI, 12, .inl (fun _ => 0))), (mA6, .inl (cJ, 96, .inr (.inl (fun _ => 0)))), (mA7, .inl (cI, 120, .inl (fun _ => 0))), (mA8, .inl (cI, 120, .inl (fun _ => 0))), (mA9, .inl (cI, 5, .inl (fun _ => 0))), (mA10, .inl (cI, 5, .inl (fun _ => 0))), (mA11, .inl (cI, 5, .inl (fun _ => 0))), (mA12, .inl (cI, 25, .inl (fun _ => 0)))] := hD
  refine pf S hK hP hD hS 0 7 22 (v := .ref mA12) zM_t u_zM zM_k zM_n w_629 rfl rfl (by decide) rfl rfl rfl rfl (Nat.le_of_ble_eq_true rfl) dM_init_102 (fun H locs hP hD hS => ?_)
  have hP : va_P D cs [(mA, .inr (7, [.int 0, .ref mA0, .int 0, .ref mA1, .ref mA2, .ref mA3, .ref mA4, .int 0, .ref mA5, .ref mA6, .int 0, .ref mA7, .int 0, .int 0, .ref mA8, .int 0, .ref mA9, .ref mA10, .ref mA11, .int 0, .int 0, .int 0, .ref mA12, .null, .null, .null, .int 0, .null, .null, .null, .null, .null, .null, .int 0, .null])), (mA0, .inl (cI, 6, .inl (fun _ => 0))), (mA1, .inl (cI, 8, .inl (fun _ => 0))), (mA2, .inl (cI, 8, .inl (fun _ => 0))), (mA3, .inl (cI, 8, .inl (fun _ => 0))), (mA4, .inl (cI, 8, .inl (fun _ => 0))), (mA5, .inl (cI, 12, .inl (fun _ => 0))), (mA6, .inl (cJ, 96, .inr (.inl (fun _ => 0)))), (mA7, .inl (cI, 120, .inl (fun _ => 0))), (mA8, .inl (cI, 120, .inl (fun _ => 0))), (mA9, .inl (cI, 5, .inl (fun _ => 0))), (mA10, .inl (cI, 5, .inl (fun _ => 0))), (mA11, .inl (cI, 5, .inl (fun _ => 0))), (mA12, .inl (cI, 25, .inl (fun _ => 0)))] H := hP
  have hD : va_D _ [(mA, .inr (7, [.int 0, .ref mA0, .int 0, .ref mA1, .ref mA2, .ref mA3, .ref mA4, .int 0, .ref mA5, .ref mA6, .int 0, .ref mA7, .int 0, .int 0, .ref mA8, .int 0, .ref mA9, .ref mA10, .ref mA11, .int 0, .int 0, .int 0, .ref mA12, .null, .null, .null, .int 0, .null, .null, .null, .null, .null, .null, .int 0, .null])), (mA0, .inl (cI, 6, .inl (fun _ => 0))), (mA1, .inl (cI, 8, .inl (fun _ => 0))), (mA2, .inl (cI, 8, .inl (fun _ => 0))), (mA3, .inl (cI, 8, .inl (fun _ => 0))), (mA4, .inl (cI, 8, .inl (fun _ => 0))), (mA5, .inl (cI, 12, .inl (fun _ => 0))), (mA6, .inl (cJ, 96, .inr (.inl (fun _ => 0)))), (mA7, .inl (cI, 120, .inl (fun _ => 0))), (mA8, .inl (cI, 120, .inl (fun _ => 0))), (mA9, .inl (cI, 5, .inl (fun _ => 0))), (mA10, .inl (cI, 5, .inl (fun _ => 0))), (mA11, .inl (cI, 5, .inl (fun _ => 0))), (mA12, .inl (cI, 25, .inl (fun _ => 0)))] := hD
  refine lv_aload_n hx hb dM_init_105 rfl (lv_at hl 0 rfl) ?_
  refine lv_bipush (v := 25) hx hb dM_init_106 (by decide) ?_
  refine nwI S hK hP hD hS hA (N' := 25) (by decide) (by decide) (by decide) (Nat.le_of_ble_eq_true rfl) (Nat.le_of_ble_eq_true rfl) dM_init_108 (fun mA13 H hP hD hS => ?_)
  have hP : va_P D cs [(mA, .inr (7, [.int 0, .ref mA0, .int 0, .ref mA1, .ref mA2, .ref mA3, .ref mA4, .int 0, .ref mA5, .ref mA6, .int 0, .ref mA7, .int 0, .int 0, .ref mA8, .int 0, .ref mA9, .ref mA10, .ref mA11, .int 0, .int 0, .int 0, .ref mA12, .null, .null, .null, .int 0, .null, .null, .null, .null, .null, .null, .int 0, .null])), (mA0, .inl (cI, 6, .inl (fun _ => 0))), (mA1, .inl (cI, 8, .inl (fun _ => 0))), (mA2, .inl (cI, 8, .inl (fun _ => 0))), (mA3, .inl (cI, 8, .inl (fun _ => 0))), (mA4, .inl (cI, 8, .inl (fun _ => 0))), (mA5, .inl (cI, 12, .inl (fun _ => 0))), (mA6, .inl (cJ, 96, .inr (.inl (fun _ => 0)))), (mA7, .inl (cI, 120, .inl (fun _ => 0))), (mA8, .inl (cI, 120, .inl (fun _ => 0))), (mA9, .inl (cI, 5, .inl (fun _ => 0))), (mA10, .inl (cI, 5, .inl (fun _ => 0))), (mA11, .inl (cI, 5, .inl (fun _ => 0))), (mA12, .inl (cI, 25, .inl (fun _ => 0))), (mA13, .inl (cI, 25, .inl (fun _ => 0)))] H := hP
  have hD : va_D _ [(mA, .inr (7, [.int 0, .ref mA0, .int 0, .ref mA1, .ref mA2, .ref mA3, .ref mA4, .int 0, .ref mA5, .ref mA6, .int 0, .ref mA7, .int 0, .int 0, .ref mA8, .int 0, .ref mA9, .ref mA10, .ref mA11, .int 0, .int 0, .int 0, .ref mA12, .null, .null, .null, .int 0, .null, .null, .null, .null, .null, .null, .int 0, .null])), (mA0, .inl (cI, 6, .inl (fun _ => 0))), (mA1, .inl (cI, 8, .inl (fun _ => 0))), (mA2, .inl (cI, 8, .inl (fun _ => 0))), (mA3, .inl (cI, 8, .inl (fun _ => 0))), (mA4, .inl (cI, 8, .inl (fun _ => 0))), (mA5, .inl (cI, 12, .inl (fun _ => 0))), (mA6, .inl (cJ, 96, .inr (.inl (fun _ => 0)))), (mA7, .inl (cI, 120, .inl (fun _ => 0))), (mA8, .inl (cI, 120, .inl (fun _ => 0))), (mA9, .inl (cI, 5, .inl (fun _ => 0))), (mA10, .inl (cI, 5, .inl (fun _ => 0))), (mA11, .inl (cI, 5, .inl (fun _ => 0))), (mA12, .inl (cI, 25, .inl (fun _ => 0))), (mA13, .inl (cI, 25, .inl (fun _ => 0)))] := hD
  refine pf S hK hP hD hS 0 7 23 (v := .ref mA13) zM_t u_zM zM_k zM_n w_630 rfl rfl (by decide) rfl rfl rfl rfl (Nat.le_of_ble_eq_true rfl) dM_init_110 (fun H locs hP hD hS => ?_)
  have hP : va_P D cs [(mA, .inr (7, [.int 0, .ref mA0, .int 0, .ref mA1, .ref mA2, .ref mA3, .ref mA4, .int 0, .ref mA5, .ref mA6, .int 0, .ref mA7, .int 0, .int 0, .ref mA8, .int 0, .ref mA9, .ref mA10, .ref mA11, .int 0, .int 0, .int 0, .ref mA12, .ref mA13, .null, .null, .int 0, .null, .null, .null, .null, .null, .null, .int 0, .null])), (mA0, .inl (cI, 6, .inl (fun _ => 0))), (mA1, .inl (cI, 8, .inl (fun _ => 0))), (mA2, .inl (cI, 8, .inl (fun _ => 0))), (mA3, .inl (cI, 8, .inl (fun _ => 0))), (mA4, .inl (cI, 8, .inl (fun _ => 0))), (mA5, .inl (cI, 12, .inl (fun _ => 0))), (mA6, .inl (cJ, 96, .inr (.inl (fun _ => 0)))), (mA7, .inl (cI, 120, .inl (fun _ => 0))), (mA8, .inl (cI, 120, .inl (fun _ => 0))), (mA9, .inl (cI, 5, .inl (fun _ => 0))), (mA10, .inl (cI, 5, .inl (fun _ => 0))), (mA11, .inl (cI, 5, .inl (fun _ => 0))), (mA12, .inl (cI, 25, .inl (fun _ => 0))), (mA13, .inl (cI, 25, .inl (fun _ => 0)))] H := hP
  have hD : va_D _ [(mA, .inr (7, [.int 0, .ref mA0, .int 0, .ref mA1, .ref mA2, .ref mA3, .ref mA4, .int 0, .ref mA5, .ref mA6, .int 0, .ref mA7, .int 0, .int 0, .ref mA8, .int 0, .ref mA9, .ref mA10, .ref mA11, .int 0, .int 0, .int 0, .ref mA12, .ref mA13, .null, .null, .int 0, .null, .null, .null, .null, .null, .null, .int 0, .null])), (mA0, .inl (cI, 6, .inl (fun _ => 0))), (mA1, .inl (cI, 8, .inl (fun _ => 0))), (mA2, .inl (cI, 8, .inl (fun _ => 0))), (mA3, .inl (cI, 8, .inl (fun _ => 0))), (mA4, .inl (cI, 8, .inl (fun _ => 0))), (mA5, .inl (cI, 12, .inl (fun _ => 0))), (mA6, .inl (cJ, 96, .inr (.inl (fun _ => 0)))), (mA7, .inl (cI, 120, .inl (fun _ => 0))), (mA8, .inl (cI, 120, .inl (fun _ => 0))), (mA9, .inl (cI, 5, .inl (fun _ => 0))), (mA10, .inl (cI, 5, .inl (fun _ => 0))), (mA11, .inl (cI, 5, .inl (fun _ => 0))), (mA12, .inl (cI, 25, .inl (fun _ => 0))), (mA13, .inl (cI, 25, .inl (fun _ => 0)))] := hD
  refine lv_aload_n hx hb dM_init_113 rfl (lv_at hl 0 rfl) ?_
  refine lv_bipush (v := 25) hx hb dM_init_114 (by decide) ?_
  refine nwI S hK hP hD hS hA (N' := 25) (by decide) (by decide) (by decide) (Nat.le_of_ble_eq_true rfl) (Nat.le_of_ble_eq_true rfl) dM_init_116 (fun mA14 H hP hD hS => ?_)
  have hP : va_P D cs [(mA, .inr (7, [.int 0, .ref mA0, .int 0, .ref mA1, .ref mA2, .ref mA3, .ref mA4, .int 0, .ref mA5, .ref mA6, .int 0, .ref mA7, .int 0, .int 0, .ref mA8, .int 0, .ref mA9, .ref mA10, .ref mA11, .int 0, .int 0, .int 0, .ref mA12, .ref mA13, .null, .null, .int 0, .null, .null, .null, .null, .null, .null, .int 0, .null])), (mA0, .inl (cI, 6, .inl (fun _ => 0))), (mA1, .inl (cI, 8, .inl (fun _ => 0))), (mA2, .inl (cI, 8, .inl (fun _ => 0))), (mA3, .inl (cI, 8, .inl (fun _ => 0))), (mA4, .inl (cI, 8, .inl (fun _ => 0))), (mA5, .inl (cI, 12, .inl (fun _ => 0))), (mA6, .inl (cJ, 96, .inr (.inl (fun _ => 0)))), (mA7, .inl (cI, 120, .inl (fun _ => 0))), (mA8, .inl (cI, 120, .inl (fun _ => 0))), (mA9, .inl (cI, 5, .inl (fun _ => 0))), (mA10, .inl (cI, 5, .inl (fun _ => 0))), (mA11, .inl (cI, 5, .inl (fun _ => 0))), (mA12, .inl (cI, 25, .inl (fun _ => 0))), (mA13, .inl (cI, 25, .inl (fun _ => 0))), (mA14, .inl (cI, 25, .inl (fun _ => 0)))] H := hP
  have hD : va_D _ [(mA, .inr (7, [.int 0, .ref mA0, .int 0, .ref mA1, .ref mA2, .ref mA3, .ref mA4, .int 0, .ref mA5, .ref mA6, .int 0, .ref mA7, .int 0, .int 0, .ref mA8, .int 0, .ref mA9, .ref mA10, .ref mA11, .int 0, .int 0, .int 0, .ref mA12, .ref mA13, .null, .null, .int 0, .null, .null, .null, .null, .null, .null, .int 0, .null])), (mA0, .inl (cI, 6, .inl (fun _ => 0))), (mA1, .inl (cI, 8, .inl (fun _ => 0))), (mA2, .inl (cI, 8, .inl (fun _ => 0))), (mA3, .inl (cI, 8, .inl (fun _ => 0))), (mA4, .inl (cI, 8, .inl (fun _ => 0))), (mA5, .inl (cI, 12, .inl (fun _ => 0))), (mA6, .inl (cJ, 96, .inr (.inl (fun _ => 0)))), (mA7, .inl (cI, 120, .inl (fun _ => 0))), (mA8, .inl (cI, 120, .inl (fun _ => 0))), (mA9, .inl (cI, 5, .inl (fun _ => 0))), (mA10, .inl (cI, 5, .inl (fun _ => 0))), (mA11, .inl (cI, 5, .inl (fun _ => 0))), (mA12, .inl (cI, 25, .inl (fun _ => 0))), (mA13, .inl (cI, 25, .inl (fun _ => 0))), (mA14, .inl (cI, 25, .inl (fun _ => 0)))] := hD
  refine pf S hK hP hD hS 0 7 24 (v := .ref mA14) zM_t u_zM zM_k zM_n w_631 rfl rfl (by decide) rfl rfl rfl rfl (Nat.le_of_ble_eq_true rfl) dM_init_118 (fun H locs hP hD hS => ?_)
  have hP : va_P D cs [(mA, .inr (7, [.int 0, .ref mA0, .int 0, .ref mA1, .ref mA2, .ref mA3, .ref mA4, .int 0, .ref mA5, .ref mA6, .int 0, .ref mA7, .int 0, .int 0, .ref mA8, .int 0, .ref mA9, .ref mA10, .ref mA11, .int 0, .int 0, .int 0, .ref mA12, .ref mA13, .ref mA14, .null, .int 0, .null, .null, .null, .null, .null, .null, .int 0, .null])), (mA0, .inl (cI, 6, .inl (fun _ => 0))), (mA1, .inl (cI, 8, .inl (fun _ => 0))), (mA2, .inl (cI, 8, .inl (fun _ => 0))), (mA3, .inl (cI, 8, .inl (fun _ => 0))), (mA4, .inl (cI, 8, .inl (fun _ => 0))), (mA5, .inl (cI, 12, .inl (fun _ => 0))), (mA6, .inl (cJ, 96, .inr (.inl (fun _ => 0)))), (mA7, .inl (cI, 120, .inl (fun _ => 0))), (mA8, .inl (cI, 120, .inl (fun _ => 0))), (mA9, .inl (cI, 5, .inl (fun _ => 0))), (mA10, .inl (cI, 5, .inl (fun _ => 0))), (mA11, .inl (cI, 5, .inl (fun _ => 0))), (mA12, .inl (cI, 25, .inl (fun _ => 0))), (mA13, .inl (cI, 25, .inl (fun _ => 0))), (mA14, .inl (cI, 25, .inl (fun _ => 0)))] H := hP
  have hD : va_D _ [(mA, .inr (7, [.int 0, .ref mA0, .int 0, .ref mA1, .ref mA2, .ref mA3, .ref mA4, .int 0, .ref mA5, .ref mA6, .int 0, .ref mA7, .int 0, .int 0, .ref mA8, .int 0, .ref mA9, .ref mA10, .ref mA11, .int 0, .int 0, .int 0, .ref mA12, .ref mA13, .ref mA14, .null, .int 0, .null, .null, .null, .null, .null, .null, .int 0, .null])), (mA0, .inl (cI, 6, .inl (fun _ => 0))), (mA1, .inl (cI, 8, .inl (fun _ => 0))), (mA2, .inl (cI, 8, .inl (fun _ => 0))), (mA3, .inl (cI, 8, .inl (fun _ => 0))), (mA4, .inl (cI, 8, .inl (fun _ => 0))), (mA5, .inl (cI, 12, .inl (fun _ => 0))), (mA6, .inl (cJ, 96, .inr (.inl (fun _ => 0)))), (mA7, .inl (cI, 120, .inl (fun _ => 0))), (mA8, .inl (cI, 120, .inl (fun _ => 0))), (mA9, .inl (cI, 5, .inl (fun _ => 0))), (mA10, .inl (cI, 5, .inl (fun _ => 0))), (mA11, .inl (cI, 5, .inl (fun _ => 0))), (mA12, .inl (cI, 25, .inl (fun _ => 0))), (mA13, .inl (cI, 25, .inl (fun _ => 0))), (mA14, .inl (cI, 25, .inl (fun _ => 0)))] := hD
  refine lv_aload_n hx hb dM_init_121 rfl (lv_at hl 0 rfl) ?_
  refine lv_bipush (v := 25) hx hb dM_init_122 (by decide) ?_
  refine nwI S hK hP hD hS hA (N' := 25) (by decide) (by decide) (by decide) (Nat.le_of_ble_eq_true rfl) (Nat.le_of_ble_eq_true rfl) dM_init_124 (fun mA15 H hP hD hS => ?_)
  have hP : va_P D cs [(mA, .inr (7, [.int 0, .ref mA0, .int 0, .ref mA1, .ref mA2, .ref mA3, .ref mA4, .int 0, .ref mA5, .ref mA6, .int 0, .ref mA7, .int 0, .int 0, .ref mA8, .int 0, .ref mA9, .ref mA10, .ref mA11, .int 0, .int 0, .int 0, .ref mA12, .ref mA13, .ref mA14, .null, .int 0, .null, .null, .null, .null, .null, .null, .int 0, .null])), (mA0, .inl (cI, 6, .inl (fun _ => 0))), (mA1, .inl (cI, 8, .inl (fun _ => 0))), (mA2, .inl (cI, 8, .inl (fun _ => 0))), (mA3, .inl (cI, 8, .inl (fun _ => 0))), (mA4, .inl (cI, 8, .inl (fun _ => 0))), (mA5, .inl (cI, 12, .inl (fun _ => 0))), (mA6, .inl (cJ, 96, .inr (.inl (fun _ => 0)))), (mA7, .inl (cI, 120, .inl (fun _ => 0))), (mA8, .inl (cI, 120, .inl (fun _ => 0))), (mA9, .inl (cI, 5, .inl (fun _ => 0))), (mA10, .inl (cI, 5, .inl (fun _ => 0))), (mA11, .inl (cI, 5, .inl (fun _ => 0))), (mA12, .inl (cI, 25, .inl (fun _ => 0))), (mA13, .inl (cI, 25, .inl (fun _ => 0))), (mA14, .inl (cI, 25, .inl (fun _ => 0))), (mA15, .inl (cI, 25, .inl (fun _ => 0)))] H := hP
  have hD : va_D _ [(mA, .inr (7, [.int 0, .ref mA0, .int 0, .ref mA1, .ref mA2, .ref mA3, .ref mA4, .int 0, .ref mA5, .ref mA6, .int 0, .ref mA7, .int 0, .int 0, .ref mA8, .int 0, .ref mA9, .ref mA10, .ref mA11, .int 0, .int 0, .int 0, .ref mA12, .ref mA13, .ref mA14, .null, .int 0, .null, .null, .null, .null, .null, .null, .int 0, .null])), (mA0, .inl (cI, 6, .inl (fun _ => 0))), (mA1, .inl (cI, 8, .inl (fun _ => 0))), (mA2, .inl (cI, 8, .inl (fun _ => 0))), (mA3, .inl (cI, 8, .inl (fun _ => 0))), (mA4, .inl (cI, 8, .inl (fun _ => 0))), (mA5, .inl (cI, 12, .inl (fun _ => 0))), (mA6, .inl (cJ, 96, .inr (.inl (fun _ => 0)))), (mA7, .inl (cI, 120, .inl (fun _ => 0))), (mA8, .inl (cI, 120, .inl (fun _ => 0))), (mA9, .inl (cI, 5, .inl (fun _ => 0))), (mA10, .inl (cI, 5, .inl (fun _ => 0))), (mA11, .inl (cI, 5, .inl (fun _ => 0))), (mA12, .inl (cI, 25, .inl (fun _ => 0))), (mA13, .inl (cI, 25, .inl (fun _ => 0))), (mA14, .inl (cI, 25, .inl (fun _ => 0))), (mA15, .inl (cI, 25, .inl (fun _ => 0)))] := hD
  refine pf S hK hP hD hS 0 7 25 (v := .ref mA15) zM_t u_zM zM_k zM_n w_632 rfl rfl (by decide) rfl rfl rfl rfl (Nat.le_of_ble_eq_true rfl) dM_init_126 (fun H locs hP hD hS => ?_)
  have hP : va_P D cs [(mA, .inr (7, [.int 0, .ref mA0, .int 0, .ref mA1, .ref mA2, .ref mA3, .ref mA4, .int 0, .ref mA5, .ref mA6, .int 0, .ref mA7, .int 0, .int 0, .ref mA8, .int 0, .ref mA9, .ref mA10, .ref mA11, .int 0, .int 0, .int 0, .ref mA12, .ref mA13, .ref mA14, .ref mA15, .int 0, .null, .null, .null, .null, .null, .null, .int 0, .null])), (mA0, .inl (cI, 6, .inl (fun _ => 0))), (mA1, .inl (cI, 8, .inl (fun _ => 0))), (mA2, .inl (cI, 8, .inl (fun _ => 0))), (mA3, .inl (cI, 8, .inl (fun _ => 0))), (mA4, .inl (cI, 8, .inl (fun _ => 0))), (mA5, .inl (cI, 12, .inl (fun _ => 0))), (mA6, .inl (cJ, 96, .inr (.inl (fun _ => 0)))), (mA7, .inl (cI, 120, .inl (fun _ => 0))), (mA8, .inl (cI, 120, .inl (fun _ => 0))), (mA9, .inl (cI, 5, .inl (fun _ => 0))), (mA10, .inl (cI, 5, .inl (fun _ => 0))), (mA11, .inl (cI, 5, .inl (fun _ => 0))), (mA12, .inl (cI, 25, .inl (fun _ => 0))), (mA13, .inl (cI, 25, .inl (fun _ => 0))), (mA14, .inl (cI, 25, .inl (fun _ => 0))), (mA15, .inl (cI, 25, .inl (fun _ => 0)))] H := hP
  have hD : va_D _ [(mA, .inr (7, [.int 0, .ref mA0, .int 0, .ref mA1, .ref mA2, .ref mA3, .ref mA4, .int 0, .ref mA5, .ref mA6, .int 0, .ref mA7, .int 0, .int 0, .ref mA8, .int 0, .ref mA9, .ref mA10, .ref mA11, .int 0, .int 0, .int 0, .ref mA12, .ref mA13, .ref mA14, .ref mA15, .int 0, .null, .null, .null, .null, .null, .null, .int 0, .null])), (mA0, .inl (cI, 6, .inl (fun _ => 0))), (mA1, .inl (cI, 8, .inl (fun _ => 0))), (mA2, .inl (cI, 8, .inl (fun _ => 0))), (mA3, .inl (cI, 8, .inl (fun _ => 0))), (mA4, .inl (cI, 8, .inl (fun _ => 0))), (mA5, .inl (cI, 12, .inl (fun _ => 0))), (mA6, .inl (cJ, 96, .inr (.inl (fun _ => 0)))), (mA7, .inl (cI, 120, .inl (fun _ => 0))), (mA8, .inl (cI, 120, .inl (fun _ => 0))), (mA9, .inl (cI, 5, .inl (fun _ => 0))), (mA10, .inl (cI, 5, .inl (fun _ => 0))), (mA11, .inl (cI, 5, .inl (fun _ => 0))), (mA12, .inl (cI, 25, .inl (fun _ => 0))), (mA13, .inl (cI, 25, .inl (fun _ => 0))), (mA14, .inl (cI, 25, .inl (fun _ => 0))), (mA15, .inl (cI, 25, .inl (fun _ => 0)))] := hD
  refine lv_aload_n hx hb dM_init_129 rfl (lv_at hl 0 rfl) ?_
  refine lv_bipush (v := 60) hx hb dM_init_130 (by decide) ?_
  refine nwI S hK hP hD hS hA (N' := 60) (by decide) (by decide) (by decide) (Nat.le_of_ble_eq_true rfl) (Nat.le_of_ble_eq_true rfl) dM_init_132 (fun mA16 H hP hD hS => ?_)
  have hP : va_P D cs [(mA, .inr (7, [.int 0, .ref mA0, .int 0, .ref mA1, .ref mA2, .ref mA3, .ref mA4, .int 0, .ref mA5, .ref mA6, .int 0, .ref mA7, .int 0, .int 0, .ref mA8, .int 0, .ref mA9, .ref mA10, .ref mA11, .int 0, .int 0, .int 0, .ref mA12, .ref mA13, .ref mA14, .ref mA15, .int 0, .null, .null, .null, .null, .null, .null, .int 0, .null])), (mA0, .inl (cI, 6, .inl (fun _ => 0))), (mA1, .inl (cI, 8, .inl (fun _ => 0))), (mA2, .inl (cI, 8, .inl (fun _ => 0))), (mA3, .inl (cI, 8, .inl (fun _ => 0))), (mA4, .inl (cI, 8, .inl (fun _ => 0))), (mA5, .inl (cI, 12, .inl (fun _ => 0))), (mA6, .inl (cJ, 96, .inr (.inl (fun _ => 0)))), (mA7, .inl (cI, 120, .inl (fun _ => 0))), (mA8, .inl (cI, 120, .inl (fun _ => 0))), (mA9, .inl (cI, 5, .inl (fun _ => 0))), (mA10, .inl (cI, 5, .inl (fun _ => 0))), (mA11, .inl (cI, 5, .inl (fun _ => 0))), (mA12, .inl (cI, 25, .inl (fun _ => 0))), (mA13, .inl (cI, 25, .inl (fun _ => 0))), (mA14, .inl (cI, 25, .inl (fun _ => 0))), (mA15, .inl (cI, 25, .inl (fun _ => 0))), (mA16, .inl (cI, 60, .inl (fun _ => 0)))] H := hP
  have hD : va_D _ [(mA, .inr (7, [.int 0, .ref mA0, .int 0, .ref mA1, .ref mA2, .ref mA3, .ref mA4, .int 0, .ref mA5, .ref mA6, .int 0, .ref mA7, .int 0, .int 0, .ref mA8, .int 0, .ref mA9, .ref mA10, .ref mA11, .int 0, .int 0, .int 0, .ref mA12, .ref mA13, .ref mA14, .ref mA15, .int 0, .null, .null, .null, .null, .null, .null, .int 0, .null])), (mA0, .inl (cI, 6, .inl (fun _ => 0))), (mA1, .inl (cI, 8, .inl (fun _ => 0))), (mA2, .inl (cI, 8, .inl (fun _ => 0))), (mA3, .inl (cI, 8, .inl (fun _ => 0))), (mA4, .inl (cI, 8, .inl (fun _ => 0))), (mA5, .inl (cI, 12, .inl (fun _ => 0))), (mA6, .inl (cJ, 96, .inr (.inl (fun _ => 0)))), (mA7, .inl (cI, 120, .inl (fun _ => 0))), (mA8, .inl (cI, 120, .inl (fun _ => 0))), (mA9, .inl (cI, 5, .inl (fun _ => 0))), (mA10, .inl (cI, 5, .inl (fun _ => 0))), (mA11, .inl (cI, 5, .inl (fun _ => 0))), (mA12, .inl (cI, 25, .inl (fun _ => 0))), (mA13, .inl (cI, 25, .inl (fun _ => 0))), (mA14, .inl (cI, 25, .inl (fun _ => 0))), (mA15, .inl (cI, 25, .inl (fun _ => 0))), (mA16, .inl (cI, 60, .inl (fun _ => 0)))] := hD
  refine pf S hK hP hD hS 0 7 27 (v := .ref mA16) zM_t u_zM zM_k zM_n w_634 rfl rfl (by decide) rfl rfl rfl rfl (Nat.le_of_ble_eq_true rfl) dM_init_134 (fun H locs hP hD hS => ?_)
  have hP : va_P D cs [(mA, .inr (7, [.int 0, .ref mA0, .int 0, .ref mA1, .ref mA2, .ref mA3, .ref mA4, .int 0, .ref mA5, .ref mA6, .int 0, .ref mA7, .int 0, .int 0, .ref mA8, .int 0, .ref mA9, .ref mA10, .ref mA11, .int 0, .int 0, .int 0, .ref mA12, .ref mA13, .ref mA14, .ref mA15, .int 0, .ref mA16, .null, .null, .null, .null, .null, .int 0, .null])), (mA0, .inl (cI, 6, .inl (fun _ => 0))), (mA1, .inl (cI, 8, .inl (fun _ => 0))), (mA2, .inl (cI, 8, .inl (fun _ => 0))), (mA3, .inl (cI, 8, .inl (fun _ => 0))), (mA4, .inl (cI, 8, .inl (fun _ => 0))), (mA5, .inl (cI, 12, .inl (fun _ => 0))), (mA6, .inl (cJ, 96, .inr (.inl (fun _ => 0)))), (mA7, .inl (cI, 120, .inl (fun _ => 0))), (mA8, .inl (cI, 120, .inl (fun _ => 0))), (mA9, .inl (cI, 5, .inl (fun _ => 0))), (mA10, .inl (cI, 5, .inl (fun _ => 0))), (mA11, .inl (cI, 5, .inl (fun _ => 0))), (mA12, .inl (cI, 25, .inl (fun _ => 0))), (mA13, .inl (cI, 25, .inl (fun _ => 0))), (mA14, .inl (cI, 25, .inl (fun _ => 0))), (mA15, .inl (cI, 25, .inl (fun _ => 0))), (mA16, .inl (cI, 60, .inl (fun _ => 0)))] H := hP
  have hD : va_D _ [(mA, .inr (7, [.int 0, .ref mA0, .int 0, .ref mA1, .ref mA2, .ref mA3, .ref mA4, .int 0, .ref mA5, .ref mA6, .int 0, .ref mA7, .int 0, .int 0, .ref mA8, .int 0, .ref mA9, .ref mA10, .ref mA11, .int 0, .int 0, .int 0, .ref mA12, .ref mA13, .ref mA14, .ref mA15, .int 0, .ref mA16, .null, .null, .null, .null, .null, .int 0, .null])), (mA0, .inl (cI, 6, .inl (fun _ => 0))), (mA1, .inl (cI, 8, .inl (fun _ => 0))), (mA2, .inl (cI, 8, .inl (fun _ => 0))), (mA3, .inl (cI, 8, .inl (fun _ => 0))), (mA4, .inl (cI, 8, .inl (fun _ => 0))), (mA5, .inl (cI, 12, .inl (fun _ => 0))), (mA6, .inl (cJ, 96, .inr (.inl (fun _ => 0)))), (mA7, .inl (cI, 120, .inl (fun _ => 0))), (mA8, .inl (cI, 120, .inl (fun _ => 0))), (mA9, .inl (cI, 5, .inl (fun _ => 0))), (mA10, .inl (cI, 5, .inl (fun _ => 0))), (mA11, .inl (cI, 5, .inl (fun _ => 0))), (mA12, .inl (cI, 25, .inl (fun _ => 0))), (mA13, .inl (cI, 25, .inl (fun _ => 0))), (mA14, .inl (cI, 25, .inl (fun _ => 0))), (mA15, .inl (cI, 25, .inl (fun _ => 0))), (mA16, .inl (cI, 60, .inl (fun _ => 0)))] := hD
  refine lv_aload_n hx hb dM_init_137 rfl (lv_at hl 0 rfl) ?_
  refine lv_bipush (v := 60) hx hb dM_init_138 (by decide) ?_
  refine nwI S hK hP hD hS hA (N' := 60) (by decide) (by decide) (by decide) (Nat.le_of_ble_eq_true rfl) (Nat.le_of_ble_eq_true rfl) dM_init_140 (fun mA17 H hP hD hS => ?_)
  have hP : va_P D cs [(mA, .inr (7, [.int 0, .ref mA0, .int 0, .ref mA1, .ref mA2, .ref mA3, .ref mA4, .int 0, .ref mA5, .ref mA6, .int 0, .ref mA7, .int 0, .int 0, .ref mA8, .int 0, .ref mA9, .ref mA10, .ref mA11, .int 0, .int 0, .int 0, .ref mA12, .ref mA13, .ref mA14, .ref mA15, .int 0, .ref mA16, .null, .null, .null, .null, .null, .int 0, .null])), (mA0, .inl (cI, 6, .inl (fun _ => 0))), (mA1, .inl (cI, 8, .inl (fun _ => 0))), (mA2, .inl (cI, 8, .inl (fun _ => 0))), (mA3, .inl (cI, 8, .inl (fun _ => 0))), (mA4, .inl (cI, 8, .inl (fun _ => 0))), (mA5, .inl (cI, 12, .inl (fun _ => 0))), (mA6, .inl (cJ, 96, .inr (.inl (fun _ => 0)))), (mA7, .inl (cI, 120, .inl (fun _ => 0))), (mA8, .inl (cI, 120, .inl (fun _ => 0))), (mA9, .inl (cI, 5, .inl (fun _ => 0))), (mA10, .inl (cI, 5, .inl (fun _ => 0))), (mA11, .inl (cI, 5, .inl (fun _ => 0))), (mA12, .inl (cI, 25, .inl (fun _ => 0))), (mA13, .inl (cI, 25, .inl (fun _ => 0))), (mA14, .inl (cI, 25, .inl (fun _ => 0))), (mA15, .inl (cI, 25, .inl (fun _ => 0))), (mA16, .inl (cI, 60, .inl (fun _ => 0))), (mA17, .inl (cI, 60, .inl (fun _ => 0)))] H := hP
  have hD : va_D _ [(mA, .inr (7, [.int 0, .ref mA0, .int 0, .ref mA1, .ref mA2, .ref mA3, .ref mA4, .int 0, .ref mA5, .ref mA6, .int 0, .ref mA7, .int 0, .int 0, .ref mA8, .int 0, .ref mA9, .ref mA10, .ref mA11, .int 0, .int 0, .int 0, .ref mA12, .ref mA13, .ref mA14, .ref mA15, .int 0, .ref mA16, .null, .null, .null, .null, .null, .int 0, .null])), (mA0, .inl (cI, 6, .inl (fun _ => 0))), (mA1, .inl (cI, 8, .inl (fun _ => 0))), (mA2, .inl (cI, 8, .inl (fun _ => 0))), (mA3, .inl (cI, 8, .inl (fun _ => 0))), (mA4, .inl (cI, 8, .inl (fun _ => 0))), (mA5, .inl (cI, 12, .inl (fun _ => 0))), (mA6, .inl (cJ, 96, .inr (.inl (fun _ => 0)))), (mA7, .inl (cI, 120, .inl (fun _ => 0))), (mA8, .inl (cI, 120, .inl (fun _ => 0))), (mA9, .inl (cI, 5, .inl (fun _ => 0))), (mA10, .inl (cI, 5, .inl (fun _ => 0))), (mA11, .inl (cI, 5, .inl (fun _ => 0))), (mA12, .inl (cI, 25, .inl (fun _ => 0))), (mA13, .inl (cI, 25, .inl (fun _ => 0))), (mA14, .inl (cI, 25, .inl (fun _ => 0))), (mA15, .inl (cI, 25, .inl (fun _ => 0))), (mA16, .inl (cI, 60, .inl (fun _ => 0))), (mA17, .inl (cI, 60, .inl (fun _ => 0)))] := hD
  refine pf S hK hP hD hS 0 7 28 (v := .ref mA17) zM_t u_zM zM_k zM_n w_635 rfl rfl (by decide) rfl rfl rfl rfl (Nat.le_of_ble_eq_true rfl) dM_init_142 (fun H locs hP hD hS => ?_)
  have hP : va_P D cs [(mA, .inr (7, [.int 0, .ref mA0, .int 0, .ref mA1, .ref mA2, .ref mA3, .ref mA4, .int 0, .ref mA5, .ref mA6, .int 0, .ref mA7, .int 0, .int 0, .ref mA8, .int 0, .ref mA9, .ref mA10, .ref mA11, .int 0, .int 0, .int 0, .ref mA12, .ref mA13, .ref mA14, .ref mA15, .int 0, .ref mA16, .ref mA17, .null, .null, .null, .null, .int 0, .null])), (mA0, .inl (cI, 6, .inl (fun _ => 0))), (mA1, .inl (cI, 8, .inl (fun _ => 0))), (mA2, .inl (cI, 8, .inl (fun _ => 0))), (mA3, .inl (cI, 8, .inl (fun _ => 0))), (mA4, .inl (cI, 8, .inl (fun _ => 0))), (mA5, .inl (cI, 12, .inl (fun _ => 0))), (mA6, .inl (cJ, 96, .inr (.inl (fun _ => 0)))), (mA7, .inl (cI, 120, .inl (fun _ => 0))), (mA8, .inl (cI, 120, .inl (fun _ => 0))), (mA9, .inl (cI, 5, .inl (fun _ => 0))), (mA10, .inl (cI, 5, .inl (fun _ => 0))), (mA11, .inl (cI, 5, .inl (fun _ => 0))), (mA12, .inl (cI, 25, .inl (fun _ => 0))), (mA13, .inl (cI, 25, .inl (fun _ => 0))), (mA14, .inl (cI, 25, .inl (fun _ => 0))), (mA15, .inl (cI, 25, .inl (fun _ => 0))), (mA16, .inl (cI, 60, .inl (fun _ => 0))), (mA17, .inl (cI, 60, .inl (fun _ => 0)))] H := hP
  have hD : va_D _ [(mA, .inr (7, [.int 0, .ref mA0, .int 0, .ref mA1, .ref mA2, .ref mA3, .ref mA4, .int 0, .ref mA5, .ref mA6, .int 0, .ref mA7, .int 0, .int 0, .ref mA8, .int 0, .ref mA9, .ref mA10, .ref mA11, .int 0, .int 0, .int 0, .ref mA12, .ref mA13, .ref mA14, .ref mA15, .int 0, .ref mA16, .ref mA17, .null, .null, .null, .null, .int 0, .null])), (mA0, .inl (cI, 6, .inl (fun _ => 0))), (mA1, .inl (cI, 8, .inl (fun _ => 0))), (mA2, .inl (cI, 8, .inl (fun _ => 0))), (mA3, .inl (cI, 8, .inl (fun _ => 0))), (mA4, .inl (cI, 8, .inl (fun _ => 0))), (mA5, .inl (cI, 12, .inl (fun _ => 0))), (mA6, .inl (cJ, 96, .inr (.inl (fun _ => 0)))), (mA7, .inl (cI, 120, .inl (fun _ => 0))), (mA8, .inl (cI, 120, .inl (fun _ => 0))), (mA9, .inl (cI, 5, .inl (fun _ => 0))), (mA10, .inl (cI, 5, .inl (fun _ => 0))), (mA11, .inl (cI, 5, .inl (fun _ => 0))), (mA12, .inl (cI, 25, .inl (fun _ => 0))), (mA13, .inl (cI, 25, .inl (fun _ => 0))), (mA14, .inl (cI, 25, .inl (fun _ => 0))), (mA15, .inl (cI, 25, .inl (fun _ => 0))), (mA16, .inl (cI, 60, .inl (fun _ => 0))), (mA17, .inl (cI, 60, .inl (fun _ => 0)))] := hD
  refine lv_aload_n hx hb dM_init_145 rfl (lv_at hl 0 rfl) ?_
  refine lv_bipush (v := 60) hx hb dM_init_146 (by decide) ?_
  refine nwI S hK hP hD hS hA (N' := 60) (by decide) (by decide) (by decide) (Nat.le_of_ble_eq_true rfl) (Nat.le_of_ble_eq_true rfl) dM_init_148 (fun mA18 H hP hD hS => ?_)
  have hP : va_P D cs [(mA, .inr (7, [.int 0, .ref mA0, .int 0, .ref mA1, .ref mA2, .ref mA3, .ref mA4, .int 0, .ref mA5, .ref mA6, .int 0, .ref mA7, .int 0, .int 0, .ref mA8, .int 0, .ref mA9, .ref mA10, .ref mA11, .int 0, .int 0, .int 0, .ref mA12, .ref mA13, .ref mA14, .ref mA15, .int 0, .ref mA16, .ref mA17, .null, .null, .null, .null, .int 0, .null])), (mA0, .inl (cI, 6, .inl (fun _ => 0))), (mA1, .inl (cI, 8, .inl (fun _ => 0))), (mA2, .inl (cI, 8, .inl (fun _ => 0))), (mA3, .inl (cI, 8, .inl (fun _ => 0))), (mA4, .inl (cI, 8, .inl (fun _ => 0))), (mA5, .inl (cI, 12, .inl (fun _ => 0))), (mA6, .inl (cJ, 96, .inr (.inl (fun _ => 0)))), (mA7, .inl (cI, 120, .inl (fun _ => 0))), (mA8, .inl (cI, 120, .inl (fun _ => 0))), (mA9, .inl (cI, 5, .inl (fun _ => 0))), (mA10, .inl (cI, 5, .inl (fun _ => 0))), (mA11, .inl (cI, 5, .inl (fun _ => 0))), (mA12, .inl (cI, 25, .inl (fun _ => 0))), (mA13, .inl (cI, 25, .inl (fun _ => 0))), (mA14, .inl (cI, 25, .inl (fun _ => 0))), (mA15, .inl (cI, 25, .inl (fun _ => 0))), (mA16, .inl (cI, 60, .inl (fun _ => 0))), (mA17, .inl (cI, 60, .inl (fun _ => 0))), (mA18, .inl (cI, 60, .inl (fun _ => 0)))] H := hP
  have hD : va_D _ [(mA, .inr (7, [.int 0, .ref mA0, .int 0, .ref mA1, .ref mA2, .ref mA3, .ref mA4, .int 0, .ref mA5, .ref mA6, .int 0, .ref mA7, .int 0, .int 0, .ref mA8, .int 0, .ref mA9, .ref mA10, .ref mA11, .int 0, .int 0, .int 0, .ref mA12, .ref mA13, .ref mA14, .ref mA15, .int 0, .ref mA16, .ref mA17, .null, .null, .null, .null, .int 0, .null])), (mA0, .inl (cI, 6, .inl (fun _ => 0))), (mA1, .inl (cI, 8, .inl (fun _ => 0))), (mA2, .inl (cI, 8, .inl (fun _ => 0))), (mA3, .inl (cI, 8, .inl (fun _ => 0))), (mA4, .inl (cI, 8, .inl (fun _ => 0))), (mA5, .inl (cI, 12, .inl (fun _ => 0))), (mA6, .inl (cJ, 96, .inr (.inl (fun _ => 0)))), (mA7, .inl (cI, 120, .inl (fun _ => 0))), (mA8, .inl (cI, 120, .inl (fun _ => 0))), (mA9, .inl (cI, 5, .inl (fun _ => 0))), (mA10, .inl (cI, 5, .inl (fun _ => 0))), (mA11, .inl (cI, 5, .inl (fun _ => 0))), (mA12, .inl (cI, 25, .inl (fun _ => 0))), (mA13, .inl (cI, 25, .inl (fun _ => 0))), (mA14, .inl (cI, 25, .inl (fun _ => 0))), (mA15, .inl (cI, 25, .inl (fun _ => 0))), (mA16, .inl (cI, 60, .inl (fun _ => 0))), (mA17, .inl (cI, 60, .inl (fun _ => 0))), (mA18, .inl (cI, 60, .inl (fun _ => 0)))] := hD
  refine pf S hK hP hD hS 0 7 29 (v := .ref mA18) zM_t u_zM zM_k zM_n w_636 rfl rfl (by decide) rfl rfl rfl rfl (Nat.le_of_ble_eq_true rfl) dM_init_150 (fun H locs hP hD hS => ?_)
  have hP : va_P D cs [(mA, .inr (7, [.int 0, .ref mA0, .int 0, .ref mA1, .ref mA2, .ref mA3, .ref mA4, .int 0, .ref mA5, .ref mA6, .int 0, .ref mA7, .int 0, .int 0, .ref mA8, .int 0, .ref mA9, .ref mA10, .ref mA11, .int 0, .int 0, .int 0, .ref mA12, .ref mA13, .ref mA14, .ref mA15, .int 0, .ref mA16, .ref mA17, .ref mA18, .null, .null, .null, .int 0, .null])), (mA0, .inl (cI, 6, .inl (fun _ => 0))), (mA1, .inl (cI, 8, .inl (fun _ => 0))), (mA2, .inl (cI, 8, .inl (fun _ => 0))), (mA3, .inl (cI, 8, .inl (fun _ => 0))), (mA4, .inl (cI, 8, .inl (fun _ => 0))), (mA5, .inl (cI, 12, .inl (fun _ => 0))), (mA6, .inl (cJ, 96, .inr (.inl (fun _ => 0)))), (mA7, .inl (cI, 120, .inl (fun _ => 0))), (mA8, .inl (cI, 120, .inl (fun _ => 0))), (mA9, .inl (cI, 5, .inl (fun _ => 0))), (mA10, .inl (cI, 5, .inl (fun _ => 0))), (mA11, .inl (cI, 5, .inl (fun _ => 0))), (mA12, .inl (cI, 25, .inl (fun _ => 0))), (mA13, .inl (cI, 25, .inl (fun _ => 0))), (mA14, .inl (cI, 25, .inl (fun _ => 0))), (mA15, .inl (cI, 25, .inl (fun _ => 0))), (mA16, .inl (cI, 60, .inl (fun _ => 0))), (mA17, .inl (cI, 60, .inl (fun _ => 0))), (mA18, .inl (cI, 60, .inl (fun _ => 0)))] H := hP
  have hD : va_D _ [(mA, .inr (7, [.int 0, .ref mA0, .int 0, .ref mA1, .ref mA2, .ref mA3, .ref mA4, .int 0, .ref mA5, .ref mA6, .int 0, .ref mA7, .int 0, .int 0, .ref mA8, .int 0, .ref mA9, .ref mA10, .ref mA11, .int 0, .int 0, .int 0, .ref mA12, .ref mA13, .ref mA14, .ref mA15, .int 0, .ref mA16, .ref mA17, .ref mA18, .null, .null, .null, .int 0, .null])), (mA0, .inl (cI, 6, .inl (fun _ => 0))), (mA1, .inl (cI, 8, .inl (fun _ => 0))), (mA2, .inl (cI, 8, .inl (fun _ => 0))), (mA3, .inl (cI, 8, .inl (fun _ => 0))), (mA4, .inl (cI, 8, .inl (fun _ => 0))), (mA5, .inl (cI, 12, .inl (fun _ => 0))), (mA6, .inl (cJ, 96, .inr (.inl (fun _ => 0)))), (mA7, .inl (cI, 120, .inl (fun _ => 0))), (mA8, .inl (cI, 120, .inl (fun _ => 0))), (mA9, .inl (cI, 5, .inl (fun _ => 0))), (mA10, .inl (cI, 5, .inl (fun _ => 0))), (mA11, .inl (cI, 5, .inl (fun _ => 0))), (mA12, .inl (cI, 25, .inl (fun _ => 0))), (mA13, .inl (cI, 25, .inl (fun _ => 0))), (mA14, .inl (cI, 25, .inl (fun _ => 0))), (mA15, .inl (cI, 25, .inl (fun _ => 0))), (mA16, .inl (cI, 60, .inl (fun _ => 0))), (mA17, .inl (cI, 60, .inl (fun _ => 0))), (mA18, .inl (cI, 60, .inl (fun _ => 0)))] := hD
  refine lv_aload_n hx hb dM_init_153 rfl (lv_at hl 0 rfl) ?_
  refine lv_bipush (v := 60) hx hb dM_init_154 (by decide) ?_
  refine nwI S hK hP hD hS hA (N' := 60) (by decide) (by decide) (by decide) (Nat.le_of_ble_eq_true rfl) (Nat.le_of_ble_eq_true rfl) dM_init_156 (fun mA19 H hP hD hS => ?_)
  have hP : va_P D cs [(mA, .inr (7, [.int 0, .ref mA0, .int 0, .ref mA1, .ref mA2, .ref mA3, .ref mA4, .int 0, .ref mA5, .ref mA6, .int 0, .ref mA7, .int 0, .int 0, .ref mA8, .int 0, .ref mA9, .ref mA10, .ref mA11, .int 0, .int 0, .int 0, .ref mA12, .ref mA13, .ref mA14, .ref mA15, .int 0, .ref mA16, .ref mA17, .ref mA18, .null, .null, .null, .int 0, .null])), (mA0, .inl (cI, 6, .inl (fun _ => 0))), (mA1, .inl (cI, 8, .inl (fun _ => 0))), (mA2, .inl (cI, 8, .inl (fun _ => 0))), (mA3, .inl (cI, 8, .inl (fun _ => 0))), (mA4, .inl (cI, 8, .inl (fun _ => 0))), (mA5, .inl (cI, 12, .inl (fun _ => 0))), (mA6, .inl (cJ, 96, .inr (.inl (fun _ => 0)))), (mA7, .inl (cI, 120, .inl (fun _ => 0))), (mA8, .inl (cI, 120, .inl (fun _ => 0))), (mA9, .inl (cI, 5, .inl (fun _ => 0))), (mA10, .inl (cI, 5, .inl (fun _ => 0))), (mA11, .inl (cI, 5, .inl (fun _ => 0))), (mA12, .inl (cI, 25, .inl (fun _ => 0))), (mA13, .inl (cI, 25, .inl (fun _ => 0))), (mA14, .inl (cI, 25, .inl (fun _ => 0))), (mA15, .inl (cI, 25, .inl (fun _ => 0))), (mA16, .inl (cI, 60, .inl (fun _ => 0))), (mA17, .inl (cI, 60, .inl (fun _ => 0))), (mA18, .inl (cI, 60, .inl (fun _ => 0))), (mA19, .inl (cI, 60, .inl (fun _ => 0)))] H := hP
  have hD : va_D _ [(mA, .inr (7, [.int 0, .ref mA0, .int 0, .ref mA1, .ref mA2, .ref mA3, .ref mA4, .int 0, .ref mA5, .ref mA6, .int 0, .ref mA7, .int 0, .int 0, .ref mA8, .int 0, .ref mA9, .ref mA10, .ref mA11, .int 0, .int 0, .int 0, .ref mA12, .ref mA13, .ref mA14, .ref mA15, .int 0, .ref mA16, .ref mA17, .ref mA18, .null, .null, .null, .int 0, .null])), (mA0, .inl (cI, 6, .inl (fun _ => 0))), (mA1, .inl (cI, 8, .inl (fun _ => 0))), (mA2, .inl (cI, 8, .inl (fun _ => 0))), (mA3, .inl (cI, 8, .inl (fun _ => 0))), (mA4, .inl (cI, 8, .inl (fun _ => 0))), (mA5, .inl (cI, 12, .inl (fun _ => 0))), (mA6, .inl (cJ, 96, .inr (.inl (fun _ => 0)))), (mA7, .inl (cI, 120, .inl (fun _ => 0))), (mA8, .inl (cI, 120, .inl (fun _ => 0))), (mA9, .inl (cI, 5, .inl (fun _ => 0))), (mA10, .inl (cI, 5, .inl (fun _ => 0))), (mA11, .inl (cI, 5, .inl (fun _ => 0))), (mA12, .inl (cI, 25, .inl (fun _ => 0))), (mA13, .inl (cI, 25, .inl (fun _ => 0))), (mA14, .inl (cI, 25, .inl (fun _ => 0))), (mA15, .inl (cI, 25, .inl (fun _ => 0))), (mA16, .inl (cI, 60, .inl (fun _ => 0))), (mA17, .inl (cI, 60, .inl (fun _ => 0))), (mA18, .inl (cI, 60, .inl (fun _ => 0))), (mA19, .inl (cI, 60, .inl (fun _ => 0)))] := hD
  refine pf S hK hP hD hS 0 7 30 (v := .ref mA19) zM_t u_zM zM_k zM_n w_637 rfl rfl (by decide) rfl rfl rfl rfl (Nat.le_of_ble_eq_true rfl) dM_init_158 (fun H locs hP hD hS => ?_)
  have hP : va_P D cs [(mA, .inr (7, [.int 0, .ref mA0, .int 0, .ref mA1, .ref mA2, .ref mA3, .ref mA4, .int 0, .ref mA5, .ref mA6, .int 0, .ref mA7, .int 0, .int 0, .ref mA8, .int 0, .ref mA9, .ref mA10, .ref mA11, .int 0, .int 0, .int 0, .ref mA12, .ref mA13, .ref mA14, .ref mA15, .int 0, .ref mA16, .ref mA17, .ref mA18, .ref mA19, .null, .null, .int 0, .null])), (mA0, .inl (cI, 6, .inl (fun _ => 0))), (mA1, .inl (cI, 8, .inl (fun _ => 0))), (mA2, .inl (cI, 8, .inl (fun _ => 0))), (mA3, .inl (cI, 8, .inl (fun _ => 0))), (mA4, .inl (cI, 8, .inl (fun _ => 0))), (mA5, .inl (cI, 12, .inl (fun _ => 0))), (mA6, .inl (cJ, 96, .inr (.inl (fun _ => 0)))), (mA7, .inl (cI, 120, .inl (fun _ => 0))), (mA8, .inl (cI, 120, .inl (fun _ => 0))), (mA9, .inl (cI, 5, .inl (fun _ => 0))), (mA10, .inl (cI, 5, .inl (fun _ => 0))), (mA11, .inl (cI, 5, .inl (fun _ => 0))), (mA12, .inl (cI, 25, .inl (fun _ => 0))), (mA13, .inl (cI, 25, .inl (fun _ => 0))), (mA14, .inl (cI, 25, .inl (fun _ => 0))), (mA15, .inl (cI, 25, .inl (fun _ => 0))), (mA16, .inl (cI, 60, .inl (fun _ => 0))), (mA17, .inl (cI, 60, .inl (fun _ => 0))), (mA18, .inl (cI, 60, .inl (fun _ => 0))), (mA19, .inl (cI, 60, .inl (fun _ => 0)))] H := hP
  have hD : va_D _ [(mA, .inr (7, [.int 0, .ref mA0, .int 0, .ref mA1, .ref mA2, .ref mA3, .ref mA4, .int 0, .ref mA5, .ref mA6, .int 0, .ref mA7, .int 0, .int 0, .ref mA8, .int 0, .ref mA9, .ref mA10, .ref mA11, .int 0, .int 0, .int 0, .ref mA12, .ref mA13, .ref mA14, .ref mA15, .int 0, .ref mA16, .ref mA17, .ref mA18, .ref mA19, .null, .null, .int 0, .null])), (mA0, .inl (cI, 6, .inl (fun _ => 0))), (mA1, .inl (cI, 8, .inl (fun _ => 0))), (mA2, .inl (cI, 8, .inl (fun _ => 0))), (mA3, .inl (cI, 8, .inl (fun _ => 0))), (mA4, .inl (cI, 8, .inl (fun _ => 0))), (mA5, .inl (cI, 12, .inl (fun _ => 0))), (mA6, .inl (cJ, 96, .inr (.inl (fun _ => 0)))), (mA7, .inl (cI, 120, .inl (fun _ => 0))), (mA8, .inl (cI, 120, .inl (fun _ => 0))), (mA9, .inl (cI, 5, .inl (fun _ => 0))), (mA10, .inl (cI, 5, .inl (fun _ => 0))), (mA11, .inl (cI, 5, .inl (fun _ => 0))), (mA12, .inl (cI, 25, .inl (fun _ => 0))), (mA13, .inl (cI, 25, .inl (fun _ => 0))), (mA14, .inl (cI, 25, .inl (fun _ => 0))), (mA15, .inl (cI, 25, .inl (fun _ => 0))), (mA16, .inl (cI, 60, .inl (fun _ => 0))), (mA17, .inl (cI, 60, .inl (fun _ => 0))), (mA18, .inl (cI, 60, .inl (fun _ => 0))), (mA19, .inl (cI, 60, .inl (fun _ => 0)))] := hD
  refine lv_aload_n hx hb dM_init_161 rfl (lv_at hl 0 rfl) ?_
  refine lv_bipush (v := 60) hx hb dM_init_162 (by decide) ?_
  refine nwI S hK hP hD hS hA (N' := 60) (by decide) (by decide) (by decide) (Nat.le_of_ble_eq_true rfl) (Nat.le_of_ble_eq_true rfl) dM_init_164 (fun mA20 H hP hD hS => ?_)
  have hP : va_P D cs [(mA, .inr (7, [.int 0, .ref mA0, .int 0, .ref mA1, .ref mA2, .ref mA3, .ref mA4, .int 0, .ref mA5, .ref mA6, .int 0, .ref mA7, .int 0, .int 0, .ref mA8, .int 0, .ref mA9, .ref mA10, .ref mA11, .int 0, .int 0, .int 0, .ref mA12, .ref mA13, .ref mA14, .ref mA15, .int 0, .ref mA16, .ref mA17, .ref mA18, .ref mA19, .null, .null, .int 0, .null])), (mA0, .inl (cI, 6, .inl (fun _ => 0))), (mA1, .inl (cI, 8, .inl (fun _ => 0))), (mA2, .inl (cI, 8, .inl (fun _ => 0))), (mA3, .inl (cI, 8, .inl (fun _ => 0))), (mA4, .inl (cI, 8, .inl (fun _ => 0))), (mA5, .inl (cI, 12, .inl (fun _ => 0))), (mA6, .inl (cJ, 96, .inr (.inl (fun _ => 0)))), (mA7, .inl (cI, 120, .inl (fun _ => 0))), (mA8, .inl (cI, 120, .inl (fun _ => 0))), (mA9, .inl (cI, 5, .inl (fun _ => 0))), (mA10, .inl (cI, 5, .inl (fun _ => 0))), (mA11, .inl (cI, 5, .inl (fun _ => 0))), (mA12, .inl (cI, 25, .inl (fun _ => 0))), (mA13, .inl (cI, 25, .inl (fun _ => 0))), (mA14, .inl (cI, 25, .inl (fun _ => 0))), (mA15, .inl (cI, 25, .inl (fun _ => 0))), (mA16, .inl (cI, 60, .inl (fun _ => 0))), (mA17, .inl (cI, 60, .inl (fun _ => 0))), (mA18, .inl (cI, 60, .inl (fun _ => 0))), (mA19, .inl (cI, 60, .inl (fun _ => 0))), (mA20, .inl (cI, 60, .inl (fun _ => 0)))] H := hP
  have hD : va_D _ [(mA, .inr (7, [.int 0, .ref mA0, .int 0, .ref mA1, .ref mA2, .ref mA3, .ref mA4, .int 0, .ref mA5, .ref mA6, .int 0, .ref mA7, .int 0, .int 0, .ref mA8, .int 0, .ref mA9, .ref mA10, .ref mA11, .int 0, .int 0, .int 0, .ref mA12, .ref mA13, .ref mA14, .ref mA15, .int 0, .ref mA16, .ref mA17, .ref mA18, .ref mA19, .null, .null, .int 0, .null])), (mA0, .inl (cI, 6, .inl (fun _ => 0))), (mA1, .inl (cI, 8, .inl (fun _ => 0))), (mA2, .inl (cI, 8, .inl (fun _ => 0))), (mA3, .inl (cI, 8, .inl (fun _ => 0))), (mA4, .inl (cI, 8, .inl (fun _ => 0))), (mA5, .inl (cI, 12, .inl (fun _ => 0))), (mA6, .inl (cJ, 96, .inr (.inl (fun _ => 0)))), (mA7, .inl (cI, 120, .inl (fun _ => 0))), (mA8, .inl (cI, 120, .inl (fun _ => 0))), (mA9, .inl (cI, 5, .inl (fun _ => 0))), (mA10, .inl (cI, 5, .inl (fun _ => 0))), (mA11, .inl (cI, 5, .inl (fun _ => 0))), (mA12, .inl (cI, 25, .inl (fun _ => 0))), (mA13, .inl (cI, 25, .inl (fun _ => 0))), (mA14, .inl (cI, 25, .inl (fun _ => 0))), (mA15, .inl (cI, 25, .inl (fun _ => 0))), (mA16, .inl (cI, 60, .inl (fun _ => 0))), (mA17, .inl (cI, 60, .inl (fun _ => 0))), (mA18, .inl (cI, 60, .inl (fun _ => 0))), (mA19, .inl (cI, 60, .inl (fun _ => 0))), (mA20, .inl (cI, 60, .inl (fun _ => 0)))] := hD
  refine pf S hK hP hD hS 0 7 31 (v := .ref mA20) zM_t u_zM zM_k zM_n w_638 rfl rfl (by decide) rfl rfl rfl rfl (Nat.le_of_ble_eq_true rfl) dM_init_166 (fun H locs hP hD hS => ?_)
  have hP : va_P D cs [(mA, .inr (7, [.int 0, .ref mA0, .int 0, .ref mA1, .ref mA2, .ref mA3, .ref mA4, .int 0, .ref mA5, .ref mA6, .int 0, .ref mA7, .int 0, .int 0, .ref mA8, .int 0, .ref mA9, .ref mA10, .ref mA11, .int 0, .int 0, .int 0, .ref mA12, .ref mA13, .ref mA14, .ref mA15, .int 0, .ref mA16, .ref mA17, .ref mA18, .ref mA19, .ref mA20, .null, .int 0, .null])), (mA0, .inl (cI, 6, .inl (fun _ => 0))), (mA1, .inl (cI, 8, .inl (fun _ => 0))), (mA2, .inl (cI, 8, .inl (fun _ => 0))), (mA3, .inl (cI, 8, .inl (fun _ => 0))), (mA4, .inl (cI, 8, .inl (fun _ => 0))), (mA5, .inl (cI, 12, .inl (fun _ => 0))), (mA6, .inl (cJ, 96, .inr (.inl (fun _ => 0)))), (mA7, .inl (cI, 120, .inl (fun _ => 0))), (mA8, .inl (cI, 120, .inl (fun _ => 0))), (mA9, .inl (cI, 5, .inl (fun _ => 0))), (mA10, .inl (cI, 5, .inl (fun _ => 0))), (mA11, .inl (cI, 5, .inl (fun _ => 0))), (mA12, .inl (cI, 25, .inl (fun _ => 0))), (mA13, .inl (cI, 25, .inl (fun _ => 0))), (mA14, .inl (cI, 25, .inl (fun _ => 0))), (mA15, .inl (cI, 25, .inl (fun _ => 0))), (mA16, .inl (cI, 60, .inl (fun _ => 0))), (mA17, .inl (cI, 60, .inl (fun _ => 0))), (mA18, .inl (cI, 60, .inl (fun _ => 0))), (mA19, .inl (cI, 60, .inl (fun _ => 0))), (mA20, .inl (cI, 60, .inl (fun _ => 0)))] H := hP
  have hD : va_D _ [(mA, .inr (7, [.int 0, .ref mA0, .int 0, .ref mA1, .ref mA2, .ref mA3, .ref mA4, .int 0, .ref mA5, .ref mA6, .int 0, .ref mA7, .int 0, .int 0, .ref mA8, .int 0, .ref mA9, .ref mA10, .ref mA11, .int 0, .int 0, .int 0, .ref mA12, .ref mA13, .ref mA14, .ref mA15, .int 0, .ref mA16, .ref mA17, .ref mA18, .ref mA19, .ref mA20, .null, .int 0, .null])), (mA0, .inl (cI, 6, .inl (fun _ => 0))), (mA1, .inl (cI, 8, .inl (fun _ => 0))), (mA2, .inl (cI, 8, .inl (fun _ => 0))), (mA3, .inl (cI, 8, .inl (fun _ => 0))), (mA4, .inl (cI, 8, .inl (fun _ => 0))), (mA5, .inl (cI, 12, .inl (fun _ => 0))), (mA6, .inl (cJ, 96, .inr (.inl (fun _ => 0)))), (mA7, .inl (cI, 120, .inl (fun _ => 0))), (mA8, .inl (cI, 120, .inl (fun _ => 0))), (mA9, .inl (cI, 5, .inl (fun _ => 0))), (mA10, .inl (cI, 5, .inl (fun _ => 0))), (mA11, .inl (cI, 5, .inl (fun _ => 0))), (mA12, .inl (cI, 25, .inl (fun _ => 0))), (mA13, .inl (cI, 25, .inl (fun _ => 0))), (mA14, .inl (cI, 25, .inl (fun _ => 0))), (mA15, .inl (cI, 25, .inl (fun _ => 0))), (mA16, .inl (cI, 60, .inl (fun _ => 0))), (mA17, .inl (cI, 60, .inl (fun _ => 0))), (mA18, .inl (cI, 60, .inl (fun _ => 0))), (mA19, .inl (cI, 60, .inl (fun _ => 0))), (mA20, .inl (cI, 60, .inl (fun _ => 0)))] := hD
  refine lv_aload_n hx hb dM_init_169 rfl (lv_at hl 0 rfl) ?_
  refine lv_bipush (v := 60) hx hb dM_init_170 (by decide) ?_
  refine nwI S hK hP hD hS hA (N' := 60) (by decide) (by decide) (by decide) (Nat.le_of_ble_eq_true rfl) (Nat.le_of_ble_eq_true rfl) dM_init_172 (fun mA21 H hP hD hS => ?_)
  have hP : va_P D cs [(mA, .inr (7, [.int 0, .ref mA0, .int 0, .ref mA1, .ref mA2, .ref mA3, .ref mA4, .int 0, .ref mA5, .ref mA6, .int 0, .ref mA7, .int 0, .int 0, .ref mA8, .int 0, .ref mA9, .ref mA10, .ref mA11, .int 0, .int 0, .int 0, .ref mA12, .ref mA13, .ref mA14, .ref mA15, .int 0, .ref mA16, .ref mA17, .ref mA18, .ref mA19, .ref mA20, .null, .int 0, .null])), (mA0, .inl (cI, 6, .inl (fun _ => 0))), (mA1, .inl (cI, 8, .inl (fun _ => 0))), (mA2, .inl (cI, 8, .inl (fun _ => 0))), (mA3, .inl (cI, 8, .inl (fun _ => 0))), (mA4, .inl (cI, 8, .inl (fun _ => 0))), (mA5, .inl (cI, 12, .inl (fun _ => 0))), (mA6, .inl (cJ, 96, .inr (.inl (fun _ => 0)))), (mA7, .inl (cI, 120, .inl (fun _ => 0))), (mA8, .inl (cI, 120, .inl (fun _ => 0))), (mA9, .inl (cI, 5, .inl (fun _ => 0))), (mA10, .inl (cI, 5, .inl (fun _ => 0))), (mA11, .inl (cI, 5, .inl (fun _ => 0))), (mA12, .inl (cI, 25, .inl (fun _ => 0))), (mA13, .inl (cI, 25, .inl (fun _ => 0))), (mA14, .inl (cI, 25, .inl (fun _ => 0))), (mA15, .inl (cI, 25, .inl (fun _ => 0))), (mA16, .inl (cI, 60, .inl (fun _ => 0))), (mA17, .inl (cI, 60, .inl (fun _ => 0))), (mA18, .inl (cI, 60, .inl (fun _ => 0))), (mA19, .inl (cI, 60, .inl (fun _ => 0))), (mA20, .inl (cI, 60, .inl (fun _ => 0))), (mA21, .inl (cI, 60, .inl (fun _ => 0)))] H := hP
  have hD : va_D _ [(mA, .inr (7, [.int 0, .ref mA0, .int 0, .ref mA1, .ref mA2, .ref mA3, .ref mA4, .int 0, .ref mA5, .ref mA6, .int 0, .ref mA7, .int 0, .int 0, .ref mA8, .int 0, .ref mA9, .ref mA10, .ref mA11, .int 0, .int 0, .int 0, .ref mA12, .ref mA13, .ref mA14, .ref mA15, .int 0, .ref mA16, .ref mA17, .ref mA18, .ref mA19, .ref mA20, .null, .int 0, .null])), (mA0, .inl (cI, 6, .inl (fun _ => 0))), (mA1, .inl (cI, 8, .inl (fun _ => 0))), (mA2, .inl (cI, 8, .inl (fun _ => 0))), (mA3, .inl (cI, 8, .inl (fun _ => 0))), (mA4, .inl (cI, 8, .inl (fun _ => 0))), (mA5, .inl (cI, 12, .inl (fun _ => 0))), (mA6, .inl (cJ, 96, .inr (.inl (fun _ => 0)))), (mA7, .inl (cI, 120, .inl (fun _ => 0))), (mA8, .inl (cI, 120, .inl (fun _ => 0))), (mA9, .inl (cI, 5, .inl (fun _ => 0))), (mA10, .inl (cI, 5, .inl (fun _ => 0))), (mA11, .inl (cI, 5, .inl (fun _ => 0))), (mA12, .inl (cI, 25, .inl (fun _ => 0))), (mA13, .inl (cI, 25, .inl (fun _ => 0))), (mA14, .inl (cI, 25, .inl (fun _ => 0))), (mA15, .inl (cI, 25, .inl (fun _ => 0))), (mA16, .inl (cI, 60, .inl (fun _ => 0))), (mA17, .inl (cI, 60, .inl (fun _ => 0))), (mA18, .inl (cI, 60, .inl (fun _ => 0))), (mA19, .inl (cI, 60, .inl (fun _ => 0))), (mA20, .inl (cI, 60, .inl (fun _ => 0))), (mA21, .inl (cI, 60, .inl (fun _ => 0)))] := hD
  refine pf S hK hP hD hS 0 7 32 (v := .ref mA21) zM_t u_zM zM_k zM_n w_639 rfl rfl (by decide) rfl rfl rfl rfl (Nat.le_of_ble_eq_true rfl) dM_init_174 (fun H locs hP hD hS => ?_)
  have hP : va_P D cs [(mA, .inr (7, [.int 0, .ref mA0, .int 0, .ref mA1, .ref mA2, .ref mA3, .ref mA4, .int 0, .ref mA5, .ref mA6, .int 0, .ref mA7, .int 0, .int 0, .ref mA8, .int 0, .ref mA9, .ref mA10, .ref mA11, .int 0, .int 0, .int 0, .ref mA12, .ref mA13, .ref mA14, .ref mA15, .int 0, .ref mA16, .ref mA17, .ref mA18, .ref mA19, .ref mA20, .ref mA21, .int 0, .null])), (mA0, .inl (cI, 6, .inl (fun _ => 0))), (mA1, .inl (cI, 8, .inl (fun _ => 0))), (mA2, .inl (cI, 8, .inl (fun _ => 0))), (mA3, .inl (cI, 8, .inl (fun _ => 0))), (mA4, .inl (cI, 8, .inl (fun _ => 0))), (mA5, .inl (cI, 12, .inl (fun _ => 0))), (mA6, .inl (cJ, 96, .inr (.inl (fun _ => 0)))), (mA7, .inl (cI, 120, .inl (fun _ => 0))), (mA8, .inl (cI, 120, .inl (fun _ => 0))), (mA9, .inl (cI, 5, .inl (fun _ => 0))), (mA10, .inl (cI, 5, .inl (fun _ => 0))), (mA11, .inl (cI, 5, .inl (fun _ => 0))), (mA12, .inl (cI, 25, .inl (fun _ => 0))), (mA13, .inl (cI, 25, .inl (fun _ => 0))), (mA14, .inl (cI, 25, .inl (fun _ => 0))), (mA15, .inl (cI, 25, .inl (fun _ => 0))), (mA16, .inl (cI, 60, .inl (fun _ => 0))), (mA17, .inl (cI, 60, .inl (fun _ => 0))), (mA18, .inl (cI, 60, .inl (fun _ => 0))), (mA19, .inl (cI, 60, .inl (fun _ => 0))), (mA20, .inl (cI, 60, .inl (fun _ => 0))), (mA21, .inl (cI, 60, .inl (fun _ => 0)))] H := hP
  have hD : va_D _ [(mA, .inr (7, [.int 0, .ref mA0, .int 0, .ref mA1, .ref mA2, .ref mA3, .ref mA4, .int 0, .ref mA5, .ref mA6, .int 0, .ref mA7, .int 0, .int 0, .ref mA8, .int 0, .ref mA9, .ref mA10, .ref mA11, .int 0, .int 0, .int 0, .ref mA12, .ref mA13, .ref mA14, .ref mA15, .int 0, .ref mA16, .ref mA17, .ref mA18, .ref mA19, .ref mA20, .ref mA21, .int 0, .null])), (mA0, .inl (cI, 6, .inl (fun _ => 0))), (mA1, .inl (cI, 8, .inl (fun _ => 0))), (mA2, .inl (cI, 8, .inl (fun _ => 0))), (mA3, .inl (cI, 8, .inl (fun _ => 0))), (mA4, .inl (cI, 8, .inl (fun _ => 0))), (mA5, .inl (cI, 12, .inl (fun _ => 0))), (mA6, .inl (cJ, 96, .inr (.inl (fun _ => 0)))), (mA7, .inl (cI, 120, .inl (fun _ => 0))), (mA8, .inl (cI, 120, .inl (fun _ => 0))), (mA9, .inl (cI, 5, .inl (fun _ => 0))), (mA10, .inl (cI, 5, .inl (fun _ => 0))), (mA11, .inl (cI, 5, .inl (fun _ => 0))), (mA12, .inl (cI, 25, .inl (fun _ => 0))), (mA13, .inl (cI, 25, .inl (fun _ => 0))), (mA14, .inl (cI, 25, .inl (fun _ => 0))), (mA15, .inl (cI, 25, .inl (fun _ => 0))), (mA16, .inl (cI, 60, .inl (fun _ => 0))), (mA17, .inl (cI, 60, .inl (fun _ => 0))), (mA18, .inl (cI, 60, .inl (fun _ => 0))), (mA19, .inl (cI, 60, .inl (fun _ => 0))), (mA20, .inl (cI, 60, .inl (fun _ => 0))), (mA21, .inl (cI, 60, .inl (fun _ => 0)))] := hD
  refine lv_aload_n hx hb dM_init_177 rfl (lv_at hl 0 rfl) ?_
  refine lv_bipush (v := 6) hx hb dM_init_178 (by decide) ?_
  refine nwI S hK hP hD hS hA (N' := 6) (by decide) (by decide) (by decide) (Nat.le_of_ble_eq_true rfl) (Nat.le_of_ble_eq_true rfl) dM_init_180 (fun mA22 H hP hD hS => ?_)
  have hP : va_P D cs [(mA, .inr (7, [.int 0, .ref mA0, .int 0, .ref mA1, .ref mA2, .ref mA3, .ref mA4, .int 0, .ref mA5, .ref mA6, .int 0, .ref mA7, .int 0, .int 0, .ref mA8, .int 0, .ref mA9, .ref mA10, .ref mA11, .int 0, .int 0, .int 0, .ref mA12, .ref mA13, .ref mA14, .ref mA15, .int 0, .ref mA16, .ref mA17, .ref mA18, .ref mA19, .ref mA20, .ref mA21, .int 0, .null])), (mA0, .inl (cI, 6, .inl (fun _ => 0))), (mA1, .inl (cI, 8, .inl (fun _ => 0))), (mA2, .inl (cI, 8, .inl (fun _ => 0))), (mA3, .inl (cI, 8, .inl (fun _ => 0))), (mA4, .inl (cI, 8, .inl (fun _ => 0))), (mA5, .inl (cI, 12, .inl (fun _ => 0))), (mA6, .inl (cJ, 96, .inr (.inl (fun _ => 0)))), (mA7, .inl (cI, 120, .inl (fun _ => 0))), (mA8, .inl (cI, 120, .inl (fun _ => 0))), (mA9, .inl (cI, 5, .inl (fun _ => 0))), (mA10, .inl (cI, 5, .inl (fun _ => 0))), (mA11, .inl (cI, 5, .inl (fun _ => 0))), (mA12, .inl (cI, 25, .inl (fun _ => 0))), (mA13, .inl (cI, 25, .inl (fun _ => 0))), (mA14, .inl (cI, 25, .inl (fun _ => 0))), (mA15, .inl (cI, 25, .inl (fun _ => 0))), (mA16, .inl (cI, 60, .inl (fun _ => 0))), (mA17, .inl (cI, 60, .inl (fun _ => 0))), (mA18, .inl (cI, 60, .inl (fun _ => 0))), (mA19, .inl (cI, 60, .inl (fun _ => 0))), (mA20, .inl (cI, 60, .inl (fun _ => 0))), (mA21, .inl (cI, 60, .inl (fun _ => 0))), (mA22, .inl (cI, 6, .inl (fun _ => 0)))] H := hP
  have hD : va_D _ [(mA, .inr (7, [.int 0, .ref mA0, .int 0, .ref mA1, .ref mA2, .ref mA3, .ref mA4, .int 0, .ref mA5, .ref mA6, .int 0, .ref mA7, .int 0, .int 0, .ref mA8, .int 0, .ref mA9, .ref mA10, .ref mA11, .int 0, .int 0, .int 0, .ref mA12, .ref mA13, .ref mA14, .ref mA15, .int 0, .ref mA16, .ref mA17, .ref mA18, .ref mA19, .ref mA20, .ref mA21, .int 0, .null])), (mA0, .inl (cI, 6, .inl (fun _ => 0))), (mA1, .inl (cI, 8, .inl (fun _ => 0))), (mA2, .inl (cI, 8, .inl (fun _ => 0))), (mA3, .inl (cI, 8, .inl (fun _ => 0))), (mA4, .inl (cI, 8, .inl (fun _ => 0))), (mA5, .inl (cI, 12, .inl (fun _ => 0))), (mA6, .inl (cJ, 96, .inr (.inl (fun _ => 0)))), (mA7, .inl (cI, 120, .inl (fun _ => 0))), (mA8, .inl (cI, 120, .inl (fun _ => 0))), (mA9, .inl (cI, 5, .inl (fun _ => 0))), (mA10, .inl (cI, 5, .inl (fun _ => 0))), (mA11, .inl (cI, 5, .inl (fun _ => 0))), (mA12, .inl (cI, 25, .inl (fun _ => 0))), (mA13, .inl (cI, 25, .inl (fun _ => 0))), (mA14, .inl (cI, 25, .inl (fun _ => 0))), (mA15, .inl (cI, 25, .inl (fun _ => 0))), (mA16, .inl (cI, 60, .inl (fun _ => 0))), (mA17, .inl (cI, 60, .inl (fun _ => 0))), (mA18, .inl (cI, 60, .inl (fun _ => 0))), (mA19, .inl (cI, 60, .inl (fun _ => 0))), (mA20, .inl (cI, 60, .inl (fun _ => 0))), (mA21, .inl (cI, 60, .inl (fun _ => 0))), (mA22, .inl (cI, 6, .inl (fun _ => 0)))] := hD
  refine pf S hK hP hD hS 0 7 34 (v := .ref mA22) zM_t u_zM zM_k zM_n w_641 rfl rfl (by decide) rfl rfl rfl rfl (Nat.le_of_ble_eq_true rfl) dM_init_182 (fun H locs hP hD hS => ?_)
  have hP : va_P D cs [(mA, .inr (7, [.int 0, .ref mA0, .int 0, .ref mA1, .ref mA2, .ref mA3, .ref mA4, .int 0, .ref mA5, .ref mA6, .int 0, .ref mA7, .int 0, .int 0, .ref mA8, .int 0, .ref mA9, .ref mA10, .ref mA11, .int 0, .int 0, .int 0, .ref mA12, .ref mA13, .ref mA14, .ref mA15, .int 0, .ref mA16, .ref mA17, .ref mA18, .ref mA19, .ref mA20, .ref mA21, .int 0, .ref mA22])), (mA0, .inl (cI, 6, .inl (fun _ => 0))), (mA1, .inl (cI, 8, .inl (fun _ => 0))), (mA2, .inl (cI, 8, .inl (fun _ => 0))), (mA3, .inl (cI, 8, .inl (fun _ => 0))), (mA4, .inl (cI, 8, .inl (fun _ => 0))), (mA5, .inl (cI, 12, .inl (fun _ => 0))), (mA6, .inl (cJ, 96, .inr (.inl (fun _ => 0)))), (mA7, .inl (cI, 120, .inl (fun _ => 0))), (mA8, .inl (cI, 120, .inl (fun _ => 0))), (mA9, .inl (cI, 5, .inl (fun _ => 0))), (mA10, .inl (cI, 5, .inl (fun _ => 0))), (mA11, .inl (cI, 5, .inl (fun _ => 0))), (mA12, .inl (cI, 25, .inl (fun _ => 0))), (mA13, .inl (cI, 25, .inl (fun _ => 0))), (mA14, .inl (cI, 25, .inl (fun _ => 0))), (mA15, .inl (cI, 25, .inl (fun _ => 0))), (mA16, .inl (cI, 60, .inl (fun _ => 0))), (mA17, .inl (cI, 60, .inl (fun _ => 0))), (mA18, .inl (cI, 60, .inl (fun _ => 0))), (mA19, .inl (cI, 60, .inl (fun _ => 0))), (mA20, .inl (cI, 60, .inl (fun _ => 0))), (mA21, .inl (cI, 60, .inl (fun _ => 0))), (mA22, .inl (cI, 6, .inl (fun _ => 0)))] H := hP
  have hD : va_D _ [(mA, .inr (7, [.int 0, .ref mA0, .int 0, .ref mA1, .ref mA2, .ref mA3, .ref mA4, .int 0, .ref mA5, .ref mA6, .int 0, .ref mA7, .int 0, .int 0, .ref mA8, .int 0, .ref mA9, .ref mA10, .ref mA11, .int 0, .int 0, .int 0, .ref mA12, .ref mA13, .ref mA14, .ref mA15, .int 0, .ref mA16, .ref mA17, .ref mA18, .ref mA19, .ref mA20, .ref mA21, .int 0, .ref mA22])), (mA0, .inl (cI, 6, .inl (fun _ => 0))), (mA1, .inl (cI, 8, .inl (fun _ => 0))), (mA2, .inl (cI, 8, .inl (fun _ => 0))), (mA3, .inl (cI, 8, .inl (fun _ => 0))), (mA4, .inl (cI, 8, .inl (fun _ => 0))), (mA5, .inl (cI, 12, .inl (fun _ => 0))), (mA6, .inl (cJ, 96, .inr (.inl (fun _ => 0)))), (mA7, .inl (cI, 120, .inl (fun _ => 0))), (mA8, .inl (cI, 120, .inl (fun _ => 0))), (mA9, .inl (cI, 5, .inl (fun _ => 0))), (mA10, .inl (cI, 5, .inl (fun _ => 0))), (mA11, .inl (cI, 5, .inl (fun _ => 0))), (mA12, .inl (cI, 25, .inl (fun _ => 0))), (mA13, .inl (cI, 25, .inl (fun _ => 0))), (mA14, .inl (cI, 25, .inl (fun _ => 0))), (mA15, .inl (cI, 25, .inl (fun _ => 0))), (mA16, .inl (cI, 60, .inl (fun _ => 0))), (mA17, .inl (cI, 60, .inl (fun _ => 0))), (mA18, .inl (cI, 60, .inl (fun _ => 0))), (mA19, .inl (cI, 60, .inl (fun _ => 0))), (mA20, .inl (cI, 60, .inl (fun _ => 0))), (mA21, .inl (cI, 60, .inl (fun _ => 0))), (mA22, .inl (cI, 6, .inl (fun _ => 0)))] := hD
  exact nu_n S hr hlocks (hP.sub (ws' := [(mA, .inr (7, [.int 0, .ref mA0, .int 0, .ref mA1, .ref mA2, .ref mA3, .ref mA4, .int 0, .ref mA5, .ref mA6, .int 0, .ref mA7, .int 0, .int 0, .ref mA8, .int 0, .ref mA9, .ref mA10, .ref mA11, .int 0, .int 0, .int 0, .ref mA12, .ref mA13, .ref mA14, .ref mA15, .int 0, .ref mA16, .ref mA17, .ref mA18, .ref mA19, .ref mA20, .ref mA21, .int 0, .ref mA22])), (mA0, .inl (cI, 6, .inl (fun _ => 0))), (mA1, .inl (cI, 8, .inl (fun _ => 0))), (mA2, .inl (cI, 8, .inl (fun _ => 0))), (mA3, .inl (cI, 8, .inl (fun _ => 0))), (mA4, .inl (cI, 8, .inl (fun _ => 0))), (mA5, .inl (cI, 12, .inl (fun _ => 0))), (mA6, .inl (cJ, 96, .inr (.inl (fun _ => 0)))), (mA7, .inl (cI, 120, .inl (fun _ => 0))), (mA8, .inl (cI, 120, .inl (fun _ => 0))), (mA9, .inl (cI, 5, .inl (fun _ => 0))), (mA10, .inl (cI, 5, .inl (fun _ => 0))), (mA11, .inl (cI, 5, .inl (fun _ => 0))), (mA12, .inl (cI, 25, .inl (fun _ => 0))), (mA13, .inl (cI, 25, .inl (fun _ => 0))), (mA14, .inl (cI, 25, .inl (fun _ => 0))), (mA15, .inl (cI, 25, .inl (fun _ => 0))), (mA16, .inl (cI, 60, .inl (fun _ => 0))), (mA17, .inl (cI, 60, .inl (fun _ => 0))), (mA18, .inl (cI, 60, .inl (fun _ => 0))), (mA19, .inl (cI, 60, .inl (fun _ => 0))), (mA20, .inl (cI, 60, .inl (fun _ => 0))), (mA21, .inl (cI, 60, .inl (fun _ => 0))), (mA22, .inl (cI, 6, .inl (fun _ => 0)))]) [0, 1, 2, 3, 4, 5, 6, 7, 8, 9, 10, 11, 12, 13, 14, 15, 16, 17, 18, 19, 20, 21, 22, 23] rfl) (hD.sub (ws' := [(mA, .inr (7, [.int 0, .ref mA0, .int 0, .ref mA1, .ref mA2, .ref mA3, .ref mA4, .int 0, .ref mA5, .ref mA6, .int 0, .ref mA7, .int 0, .int 0, .ref mA8, .int 0, .ref mA9, .ref mA10, .ref mA11, .int 0, .int 0, .int 0, .ref mA12, .ref mA13, .ref mA14, .ref mA15, .int 0, .ref mA16, .ref mA17, .ref mA18, .ref mA19, .ref mA20, .ref mA21, .int 0, .ref mA22])), (mA0, .inl (cI, 6, .inl (fun _ => 0))), (mA1, .inl (cI, 8, .inl (fun _ => 0))), (mA2, .inl (cI, 8, .inl (fun _ => 0))), (mA3, .inl (cI, 8, .inl (fun _ => 0))), (mA4, .inl (cI, 8, .inl (fun _ => 0))), (mA5, .inl (cI, 12, .inl (fun _ => 0))), (mA6, .inl (cJ, 96, .inr (.inl (fun _ => 0)))), (mA7, .inl (cI, 120, .inl (fun _ => 0))), (mA8, .inl (cI, 120, .inl (fun _ => 0))), (mA9, .inl (cI, 5, .inl (fun _ => 0))), (mA10, .inl (cI, 5, .inl (fun _ => 0))), (mA11, .inl (cI, 5, .inl (fun _ => 0))), (mA12, .inl (cI, 25, .inl (fun _ => 0))), (mA13, .inl (cI, 25, .inl (fun _ => 0))), (mA14, .inl (cI, 25, .inl (fun _ => 0))), (mA15, .inl (cI, 25, .inl (fun _ => 0))), (mA16, .inl (cI, 60, .inl (fun _ => 0))), (mA17, .inl (cI, 60, .inl (fun _ => 0))), (mA18, .inl (cI, 60, .inl (fun _ => 0))), (mA19, .inl (cI, 60, .inl (fun _ => 0))), (mA20, .inl (cI, 60, .inl (fun _ => 0))), (mA21, .inl (cI, 60, .inl (fun _ => 0))), (mA22, .inl (cI, 6, .inl (fun _ => 0)))]) [0, 1, 2, 3, 4, 5, 6, 7, 8, 9, 10, 11, 12, 13, 14, 15, 16, 17, 18, 19, 20, 21, 22, 23] rfl rfl) hS dM_init_185 ⟨mA0, mA1, mA2, mA3, mA4, mA5, mA6, mA7, mA8, mA9, mA10, mA11, mA12, mA13, mA14, mA15, mA16, mA17, mA18, mA19, mA20, mA21, mA22, rfl⟩ (Nat.le_of_ble_eq_true rfl) (Nat.le_of_ble_eq_true rfl)
end
section
/-! contracts, laid by wip/gen/parts.py -/
def fB_add (v1 : Int32) (b_count : Int32) (b_row : (Nat → Int32)) : Option (Bool × Int32 × (Nat → Int32)) :=
  if b_count < (120 : Int32) then (if ok b_count 120 = true then (some (true, b_count + (1 : Int32), upd b_row b_count.toNatClampNeg v1)) else none) else (some (false, b_count, b_row))
set_option maxHeartbeats 4000000 in
set_option maxRecDepth 100000 in
theorem cB_add (l : Launch) (D : va_G) (cI cJ : ClassId) (bA bA0 : Nat) (v1 : Int32) (b_count : Int32) (b_row : (Nat → Int32)) (r : Bool × Int32 × (Nat → Int32)) (h : fB_add v1 b_count b_row = some r) : Mu l yB_add bB_add 2 (some .boolean) (rL 0) [.ref bA, .int v1] D cI cJ [(bA, .inr (0, [.ref bA0, .int b_count])), (bA0, .inl (cI, 120, .inl b_row))] (some (.int (bI r.1))) [(bA, .inr (0, [.ref bA0, .int r.2.1])), (bA0, .inl (cI, 120, .inl r.2.2))] := by
  refine mu_of (by decide) (Nat.le_of_ble_eq_true rfl) ?_
  intro p e s m below meth c ls A S hr hlocks hN hK hP hD hA hl
  have hS : va_S A s.heap s.heap [] := va_S.rf
  have hx := S.1
  have hb := S.2.1
  have hl : lv_has ls 2 [(0, .ref bA), (1, .int v1)] := hl
  unfold fB_add at h
  refine lv_aload_n hx hb dB_add_0 rfl (lv_at hl 0 rfl) ?_
  refine gf S hK hP 0 0 1 u_zB w_128 rfl rfl (by decide) rfl dB_add_1 ?_
  refine lv_bipush (v := (120 : Int32)) hx hb dB_add_4 (by decide) ?_
  refine lv_icmp_lt (tgt := 11) hx hb dB_add_6 (by decide) (fun h6 => ?_) (fun h6 => ?_)
  · have h := g_t h h6
    refine lv_aload_n hx hb dB_add_11 rfl (lv_at hl 0 rfl) ?_
    refine gf S hK hP 0 0 0 u_zB w_127 rfl rfl (by decide) rfl dB_add_12 ?_
    refine lv_aload_n hx hb dB_add_15 rfl (lv_at hl 0 rfl) ?_
    refine gf S hK hP 0 0 1 u_zB w_128 rfl rfl (by decide) rfl dB_add_16 ?_
    refine lv_iload_n hx hb dB_add_19 rfl (lv_at hl 1 rfl) ?_
    obtain ⟨b20, h⟩ := g_ok h
    refine va_iast hx hb hK hP hD hS 1 0 rfl rfl b20 dB_add_20 (fun H locs hP hD hS => ?_)
    have hP : va_P D cs [(bA, .inr (0, [.ref bA0, .int b_count])), (bA0, .inl (cI, 120, .inl (upd b_row b_count.toNatClampNeg v1)))] H := hP
    have hD : va_D A [(bA, .inr (0, [.ref bA0, .int b_count])), (bA0, .inl (cI, 120, .inl (upd b_row b_count.toNatClampNeg v1)))] := hD
    refine lv_aload_n hx hb dB_add_21 rfl (lv_at hl 0 rfl) ?_
    refine lv_dup hx hb dB_add_22 rfl ?_
    refine gf S hK hP 0 0 1 u_zB w_128 rfl rfl (by decide) rfl dB_add_23 ?_
    refine lv_iconst (v := (1 : Int32)) hx hb dB_add_26 (by decide) ?_
    refine lv_iadd hx hb dB_add_27 ?_
    refine pf S hK hP hD hS 0 0 1 (v := .int (b_count + (1 : Int32))) zB_t u_zB zB_k zB_n w_128 rfl rfl (by decide) rfl rfl rfl rfl (Nat.le_of_ble_eq_true rfl) dB_add_28 (fun H locs hP hD hS => ?_)
    have hP : va_P D cs [(bA, .inr (0, [.ref bA0, .int (b_count + (1 : Int32))])), (bA0, .inl (cI, 120, .inl (upd b_row b_count.toNatClampNeg v1)))] H := hP
    have hD : va_D A [(bA, .inr (0, [.ref bA0, .int (b_count + (1 : Int32))])), (bA0, .inl (cI, 120, .inl (upd b_row b_count.toNatClampNeg v1)))] := hD
    refine lv_iconst (v := (1 : Int32)) hx hb dB_add_31 (by decide) ?_
    cases h
    exact mu_z S hr hlocks hP hS dB_add_32 rfl rfl
  · have h := g_f h h6
    refine lv_iconst (v := (0 : Int32)) hx hb dB_add_9 (by decide) ?_
    cases h
    exact mu_z S hr hlocks hP hS dB_add_10 rfl rfl
def fB_lowByte (v1 : Int64) (v3 : Int32) : Option (Int32) :=
  some (((v1 >>> (((8 : Int32) * v3).toInt64 &&& 63)).toInt32) &&& (255 : Int32))
set_option maxHeartbeats 4000000 in
set_option maxRecDepth 100000 in
theorem cB_lowByte (l : Launch) (D : va_G) (cI cJ : ClassId) (bA bA0 : Nat) (v1 : Int64) (v3 : Int32) (b_count : Int32) (b_row : (Nat → Int32)) (r : Int32) (h : fB_lowByte v1 v3 = some r) : Pu l yB_lowByte bB_lowByte 4 (some .int) (rL 0) [.ref bA, .long v1, .int v3] D cI cJ [(bA, .inr (0, [.ref bA0, .int b_count])), (bA0, .inl (cI, 120, .inl b_row))] (.int r) := by
  refine pu_of (by decide) (Nat.le_of_ble_eq_true rfl) ?_
  intro p e s m below meth c ls S hr hlocks hN hK hP hl
  have hx := S.1
  have hb := S.2.1
  have hl : lv_has ls 4 [(0, .ref bA), (1, .long v1), (3, .int v3)] := hl
  unfold fB_lowByte at h
  refine lv_lload_n hx hb dB_lowByte_0 rfl (lv_at hl 1 rfl) ?_
  refine lv_bipush (v := (8 : Int32)) hx hb dB_lowByte_1 (by decide) ?_
  refine lv_iload_n hx hb dB_lowByte_3 rfl (lv_at hl 2 rfl) ?_
  refine lv_imul hx hb dB_lowByte_4 ?_
  refine lv_lshr hx hb dB_lowByte_5 rfl ?_
  refine lv_l2i hx hb dB_lowByte_6 rfl ?_
  refine lv_sipush (v := (255 : Int32)) hx hb dB_lowByte_7 (by decide) ?_
  refine lv_iand hx hb dB_lowByte_10 ?_
  cases h
  exact pu_i S hr hlocks dB_lowByte_11 rfl
def fB_addNumber_6 (N : Nat) (v1 : Int64) (v3 : Int32) (rc6 : Bool × Int32 × Int32 × (Nat → Int32) → Option (Bool × Int32 × (Nat → Int32))) (v4 : Bool) (v5 : Int32) (b_count : Int32) (b_row : (Nat → Int32)) : Option (Bool × Int32 × (Nat → Int32)) :=
  if v3 ≤ v5 then (some (v4, b_count, b_row)) else (if v4 = true then ((fB_lowByte v1 v5).bind fun u22 => ((fB_add u22 b_count b_row).bind fun u25 => (rc6 (u25.1, v5 + (1 : Int32), u25.2.1, u25.2.2)))) else (some (v4, b_count, b_row)))
def fB_addNumber_6l (N : Nat) (v1 : Int64) (v3 : Int32) : Nat → Bool × Int32 × Int32 × (Nat → Int32) → Option (Bool × Int32 × (Nat → Int32)) := lp (fun rc a => fB_addNumber_6 N v1 v3 rc a.1 a.2.1 a.2.2.1 a.2.2.2)
def fB_addNumber (N : Nat) (v1 : Int64) (v3 : Int32) (b_count : Int32) (b_row : (Nat → Int32)) : Option (Bool × Int32 × (Nat → Int32)) :=
  fB_addNumber_6l N v1 v3 N (true, (0 : Int32), b_count, b_row)
set_option maxHeartbeats 4000000 in
set_option maxRecDepth 100000 in
theorem cB_addNumber (l : Launch) (D : va_G) (cI cJ : ClassId) (bA bA0 : Nat) (N : Nat) (v1 : Int64) (v3 : Int32) (b_count : Int32) (b_row : (Nat → Int32)) (r : Bool × Int32 × (Nat → Int32)) (h : fB_addNumber N v1 v3 b_count b_row = some r) : Mu l yB_addNumber bB_addNumber 6 (some .boolean) (rL 1) [.ref bA, .long v1, .int v3] D cI cJ [(bA, .inr (0, [.ref bA0, .int b_count])), (bA0, .inl (cI, 120, .inl b_row))] (some (.int (bI r.1))) [(bA, .inr (0, [.ref bA0, .int r.2.1])), (bA0, .inl (cI, 120, .inl r.2.2))] := by
  refine mu_of (by decide) (Nat.le_of_ble_eq_true rfl) ?_
  intro p e s m below meth c ls A S hr hlocks hN hK hP hD hA hl
  have hS : va_S A s.heap s.heap [] := va_S.rf
  have hx := S.1
  have hb := S.2.1
  have hl : lv_has ls 6 [(0, .ref bA), (1, .long v1), (3, .int v3)] := hl
  unfold fB_addNumber at h
  have t6 : ∀ (k : Nat) (a : Bool × Int32 × Int32 × (Nat → Int32)), fB_addNumber_6l N v1 v3 k a = some r → ∀ (ls : Array Slot) (H : Heap) (locs : List Loc), lv_has ls 6 [(0, .ref bA), (1, .long v1), (3, .int v3), (4, .int (bI a.1)), (5, .int a.2.1)] → va_P D cs [(bA, .inr (0, [.ref bA0, .int a.2.2.1])), (bA0, .inl (cI, 120, .inl a.2.2.2))] H → va_D A [(bA, .inr (0, [.ref bA0, .int a.2.2.1])), (bA0, .inl (cI, 120, .inl a.2.2.2))] → va_S A s.heap H locs → W p l e (rL 1) s m ([.ref bA, .long v1, .int v3] : List Value).toArray below meth c H locs 0 0 (MQ below (fun _ st oc t => (oc = .returned (some (.int (bI r.1))) ∧ va_P D cs [(bA, .inr (0, [.ref bA0, .int r.2.1])), (bA0, .inl (cI, 120, .inl r.2.2))] t.heap) ∧ va_F A st t) ([.ref bA, .long v1, .int v3] : List Value).toArray s 0 0 A) (F0 m 6 ls []) := by
    unfold fB_addNumber_6l
    refine lp_some ?_
    intro rc6 hrc6 a h
    obtain ⟨v4, v5, b_count, b_row⟩ := a
    intro ls H locs hl hP hD hS
    have h : fB_addNumber_6 N v1 v3 rc6 v4 v5 b_count b_row = some r := h
    have hl : lv_has ls 6 [(0, .ref bA), (1, .long v1), (3, .int v3), (4, .int (bI v4)), (5, .int v5)] := hl
    have hP : va_P D cs [(bA, .inr (0, [.ref bA0, .int b_count])), (bA0, .inl (cI, 120, .inl b_row))] H := hP
    have hD : va_D A [(bA, .inr (0, [.ref bA0, .int b_count])), (bA0, .inl (cI, 120, .inl b_row))] := hD
    unfold fB_addNumber_6 at h
    refine lv_iload hx hb dB_addNumber_6 (lv_at hl 4 rfl) ?_
    refine lv_iload_n hx hb dB_addNumber_8 rfl (lv_at hl 2 rfl) ?_
    refine lv_icmp_ge (tgt := 36) hx hb dB_addNumber_9 (by decide) (fun h9 => ?_) (fun h9 => ?_)
    · have h := g_t h h9
      refine lv_iload hx hb dB_addNumber_36 (lv_at hl 3 rfl) ?_
      cases h
      exact mu_z S hr hlocks hP hS dB_addNumber_38 rfl rfl
    · have h := g_f h h9
      refine lv_iload hx hb dB_addNumber_12 (lv_at hl 3 rfl) ?_
      refine b_ifeq (tgt := 36) hx hb dB_addNumber_14 (by decide) (fun h14 => ?_) (fun h14 => ?_)
      · have h := g_f h h14
        refine lv_iload hx hb dB_addNumber_36 (lv_at hl 3 rfl) ?_
        cases h
        exact mu_z S hr hlocks hP hS dB_addNumber_38 rfl rfl
      · have h := g_t h h14
        refine lv_aload_n hx hb dB_addNumber_17 rfl (lv_at hl 0 rfl) ?_
        refine lv_aload_n hx hb dB_addNumber_18 rfl (lv_at hl 0 rfl) ?_
        refine lv_lload_n hx hb dB_addNumber_19 rfl (lv_at hl 1 rfl) ?_
        refine lv_iload hx hb dB_addNumber_20 (lv_at hl 4 rfl) ?_
        obtain ⟨u22, e22, h⟩ := g_bind h
        refine pu_v S hN hK hP (rest := [.ref bA]) (cB_lowByte l D cI cJ bA bA0 v1 v5 b_count b_row u22 e22) k_B_19 [0, 1] rfl 0 rfl rfl ⟨rfl, rfl⟩ ⟨Nat.le_of_ble_eq_true rfl, Nat.le_of_ble_eq_true rfl⟩ rfl hl.1 (Nat.le_of_ble_eq_true rfl) ⟨Nat.le_refl _, Nat.le_refl _⟩ dB_addNumber_22 rfl ?_
        obtain ⟨u25, e25, h⟩ := g_bind h
        refine mu_v S hN hK hP hD hS hA (rest := []) (cB_add l D cI cJ bA bA0 u22 b_count b_row u25 e25) k_B_23 [0, 1] rfl rfl rfl 0 rfl rfl ⟨rfl, rfl⟩ ⟨Nat.le_of_ble_eq_true rfl, Nat.le_of_ble_eq_true rfl⟩ rfl hl.1 (Nat.le_of_ble_eq_true rfl) ⟨Nat.le_refl _, Nat.le_refl _⟩ dB_addNumber_25 rfl (fun H locs hP hD hS => ?_)
        have hP : va_P D cs [(bA, .inr (0, [.ref bA0, .int u25.2.1])), (bA0, .inl (cI, 120, .inl u25.2.2))] H := hP
        have hD : va_D A [(bA, .inr (0, [.ref bA0, .int u25.2.1])), (bA0, .inl (cI, 120, .inl u25.2.2))] := hD
        refine lv_istore (lv' := [(4, .int (bI u25.1)), (0, .ref bA), (1, .long v1), (3, .int v3), (5, .int v5)]) hx hb dB_addNumber_28 hl (Nat.le_of_ble_eq_true rfl) rfl (fun ls hl => ?_)
        refine lv_iinc (k := 4) (v := v5 + (1 : Int32)) (lv' := [(5, .int (v5 + (1 : Int32))), (4, .int (bI u25.1)), (0, .ref bA), (1, .long v1), (3, .int v3)]) hx hb dB_addNumber_30 hl rfl (congrArg (v5 + ·) (by decide : Int32.ofInt (1) = (1 : Int32))) (Nat.le_of_ble_eq_true rfl) rfl (fun ls hl => ?_)
        refine lv_goto (tgt := 6) hx hb dB_addNumber_33 (by decide) ?_
        exact hrc6 (u25.1, v5 + (1 : Int32), u25.2.1, u25.2.2) h _ _ _ (lv_sub hl [2, 3, 4, 1, 0] rfl) hP hD hS
  refine lv_iconst (v := (1 : Int32)) hx hb dB_addNumber_0 (by decide) ?_
  refine lv_istore (lv' := [(4, .int (bI true)), (0, .ref bA), (1, .long v1), (3, .int v3)]) hx hb dB_addNumber_1 hl (Nat.le_of_ble_eq_true rfl) rfl (fun ls hl => ?_)
  refine lv_iconst (v := (0 : Int32)) hx hb dB_addNumber_3 (by decide) ?_
  refine lv_istore (lv' := [(5, .int (0 : Int32)), (4, .int (bI true)), (0, .ref bA), (1, .long v1), (3, .int v3)]) hx hb dB_addNumber_4 hl (Nat.le_of_ble_eq_true rfl) rfl (fun ls hl => ?_)
  exact t6 N (true, (0 : Int32), b_count, b_row) h _ _ _ (lv_sub hl [2, 3, 4, 1, 0] rfl) hP hD hS
def fB_at (v1 : Int32) (b_count : Int32) (b_row : (Nat → Int32)) : Option (Int32) :=
  if v1 < 0 then (some ((-1 : Int32))) else (if b_count ≤ v1 then (some ((-1 : Int32))) else (if ok v1 120 = true then (some (b_row v1.toNatClampNeg)) else none))
set_option maxHeartbeats 4000000 in
set_option maxRecDepth 100000 in
theorem cB_at (l : Launch) (D : va_G) (cI cJ : ClassId) (bA bA0 : Nat) (v1 : Int32) (b_count : Int32) (b_row : (Nat → Int32)) (r : Int32) (h : fB_at v1 b_count b_row = some r) : Pu l yB_at bB_at 2 (some .int) (rL 0) [.ref bA, .int v1] D cI cJ [(bA, .inr (0, [.ref bA0, .int b_count])), (bA0, .inl (cI, 120, .inl b_row))] (.int r) := by
  refine pu_of (by decide) (Nat.le_of_ble_eq_true rfl) ?_
  intro p e s m below meth c ls S hr hlocks hN hK hP hl
  have hx := S.1
  have hb := S.2.1
  have hl : lv_has ls 2 [(0, .ref bA), (1, .int v1)] := hl
  unfold fB_at at h
  refine lv_iload_n hx hb dB_at_0 rfl (lv_at hl 1 rfl) ?_
  refine lv_if_lt (tgt := 21) hx hb dB_at_1 (by decide) (fun h1 => ?_) (fun h1 => ?_)
  · have h := g_t h h1
    refine lv_iconst (v := (-1 : Int32)) hx hb dB_at_21 (by decide) ?_
    cases h
    exact pu_i S hr hlocks dB_at_22 rfl
  · have h := g_f h h1
    refine lv_iload_n hx hb dB_at_4 rfl (lv_at hl 1 rfl) ?_
    refine lv_aload_n hx hb dB_at_5 rfl (lv_at hl 0 rfl) ?_
    refine gf S hK hP 0 0 1 u_zB w_128 rfl rfl (by decide) rfl dB_at_6 ?_
    refine lv_icmp_ge (tgt := 21) hx hb dB_at_9 (by decide) (fun h9 => ?_) (fun h9 => ?_)
    · have h := g_t h h9
      refine lv_iconst (v := (-1 : Int32)) hx hb dB_at_21 (by decide) ?_
      cases h
      exact pu_i S hr hlocks dB_at_22 rfl
    · have h := g_f h h9
      refine lv_aload_n hx hb dB_at_12 rfl (lv_at hl 0 rfl) ?_
      refine gf S hK hP 0 0 0 u_zB w_127 rfl rfl (by decide) rfl dB_at_13 ?_
      refine lv_iload_n hx hb dB_at_16 rfl (lv_at hl 1 rfl) ?_
      obtain ⟨b17, h⟩ := g_ok h
      refine va_iald hx hb hK hP 1 0 rfl rfl b17 dB_at_17 ?_
      refine lv_goto (tgt := 22) hx hb dB_at_18 (by decide) ?_
      cases h
      exact pu_i S hr hlocks dB_at_22 rfl
def fB_copyFrom (b_count : Int32) (b_row : (Nat → Int32)) (w_count : Int32) (w_row : (Nat → Int32)) : Option (Int32 × (Nat → Int32)) :=
  if ln w_count 120 = true then (some (w_count, va_cpy w_row b_row 0 0 w_count.toNatClampNeg)) else none
set_option maxHeartbeats 4000000 in
set_option maxRecDepth 100000 in
theorem cB_copyFrom (l : Launch) (D : va_G) (cI cJ : ClassId) (bA bA0 wA wA0 : Nat) (b_count : Int32) (b_row : (Nat → Int32)) (w_count : Int32) (w_row : (Nat → Int32)) (r : Int32 × (Nat → Int32)) (h : fB_copyFrom b_count b_row w_count w_row = some r) : Mu l yB_copyFrom bB_copyFrom 2 none (rL 1) [.ref bA, .ref wA] D cI cJ [(bA, .inr (0, [.ref bA0, .int b_count])), (bA0, .inl (cI, 120, .inl b_row)), (wA, .inr (0, [.ref wA0, .int w_count])), (wA0, .inl (cI, 120, .inl w_row))] none [(bA, .inr (0, [.ref bA0, .int r.1])), (bA0, .inl (cI, 120, .inl r.2)), (wA, .inr (0, [.ref wA0, .int w_count])), (wA0, .inl (cI, 120, .inl w_row))] := by
  refine mu_of (by decide) (Nat.le_of_ble_eq_true rfl) ?_
  intro p e s m below meth c ls A S hr hlocks hN hK hP hD hA hl
  have hS : va_S A s.heap s.heap [] := va_S.rf
  have hx := S.1
  have hb := S.2.1
  have hl : lv_has ls 2 [(0, .ref bA), (1, .ref wA)] := hl
  unfold fB_copyFrom at h
  refine lv_aload_n hx hb dB_copyFrom_0 rfl (lv_at hl 1 rfl) ?_
  refine gf S hK hP 2 0 0 u_zB w_127 rfl rfl (by decide) rfl dB_copyFrom_1 ?_
  refine lv_iconst (v := (0 : Int32)) hx hb dB_copyFrom_4 (by decide) ?_
  refine lv_aload_n hx hb dB_copyFrom_5 rfl (lv_at hl 0 rfl) ?_
  refine gf S hK hP 0 0 0 u_zB w_127 rfl rfl (by decide) rfl dB_copyFrom_6 ?_
  refine lv_iconst (v := (0 : Int32)) hx hb dB_copyFrom_9 (by decide) ?_
  refine lv_aload_n hx hb dB_copyFrom_10 rfl (lv_at hl 1 rfl) ?_
  refine gf S hK hP 2 0 1 u_zB w_128 rfl rfl (by decide) rfl dB_copyFrom_11 ?_
  obtain ⟨b14, h⟩ := g_len h
  refine cpi S w_cp1 w_cp2 w_cp3 w_cp4 hl.1 hK hP hD hS 3 1 rfl rfl b14 (Nat.le_of_ble_eq_true rfl) (by decide +kernel) dB_copyFrom_14 (fun H locs hP hD hS => ?_)
  have hP : va_P D cs [(bA, .inr (0, [.ref bA0, .int b_count])), (bA0, .inl (cI, 120, .inl (va_cpy w_row b_row 0 0 w_count.toNatClampNeg))), (wA, .inr (0, [.ref wA0, .int w_count])), (wA0, .inl (cI, 120, .inl w_row))] H := hP
  have hD : va_D A [(bA, .inr (0, [.ref bA0, .int b_count])), (bA0, .inl (cI, 120, .inl (va_cpy w_row b_row 0 0 w_count.toNatClampNeg))), (wA, .inr (0, [.ref wA0, .int w_count])), (wA0, .inl (cI, 120, .inl w_row))] := hD
  refine lv_aload_n hx hb dB_copyFrom_17 rfl (lv_at hl 0 rfl) ?_
  refine lv_aload_n hx hb dB_copyFrom_18 rfl (lv_at hl 1 rfl) ?_
  refine gf S hK hP 2 0 1 u_zB w_128 rfl rfl (by decide) rfl dB_copyFrom_19 ?_
  refine pf S hK hP hD hS 0 0 1 (v := .int w_count) zB_t u_zB zB_k zB_n w_128 rfl rfl (by decide) rfl rfl rfl rfl (Nat.le_of_ble_eq_true rfl) dB_copyFrom_22 (fun H locs hP hD hS => ?_)
  have hP : va_P D cs [(bA, .inr (0, [.ref bA0, .int w_count])), (bA0, .inl (cI, 120, .inl (va_cpy w_row b_row 0 0 w_count.toNatClampNeg))), (wA, .inr (0, [.ref wA0, .int w_count])), (wA0, .inl (cI, 120, .inl w_row))] H := hP
  have hD : va_D A [(bA, .inr (0, [.ref bA0, .int w_count])), (bA0, .inl (cI, 120, .inl (va_cpy w_row b_row 0 0 w_count.toNatClampNeg))), (wA, .inr (0, [.ref wA0, .int w_count])), (wA0, .inl (cI, 120, .inl w_row))] := hD
  cases h
  exact mu_n S hr hlocks hP hS dB_copyFrom_25 rfl
def fB_holds (v1 : Int32) (v2 : Int32) (b_count : Int32) : Option (Bool) :=
  if v1 < 0 then (some (false)) else (if (b_count - v2) < v1 then (some (false)) else (some (true)))
set_option maxHeartbeats 4000000 in
set_option maxRecDepth 100000 in
theorem cB_holds (l : Launch) (D : va_G) (cI cJ : ClassId) (bA bA0 : Nat) (v1 : Int32) (v2 : Int32) (b_count : Int32) (b_row : (Nat → Int32)) (r : Bool) (h : fB_holds v1 v2 b_count = some r) : Pu l yB_holds bB_holds 3 (some .boolean) (rL 0) [.ref bA, .int v1, .int v2] D cI cJ [(bA, .inr (0, [.ref bA0, .int b_count])), (bA0, .inl (cI, 120, .inl b_row))] (.int (bI r)) := by
  refine pu_of (by decide) (Nat.le_of_ble_eq_true rfl) ?_
  intro p e s m below meth c ls S hr hlocks hN hK hP hl
  have hx := S.1
  have hb := S.2.1
  have hl : lv_has ls 3 [(0, .ref bA), (1, .int v1), (2, .int v2)] := hl
  unfold fB_holds at h
  refine lv_iload_n hx hb dB_holds_0 rfl (lv_at hl 1 rfl) ?_
  refine lv_if_lt (tgt := 18) hx hb dB_holds_1 (by decide) (fun h1 => ?_) (fun h1 => ?_)
  · have h := g_t h h1
    refine lv_iconst (v := (0 : Int32)) hx hb dB_holds_18 (by decide) ?_
    cases h
    exact pu_z S hr hlocks dB_holds_19 rfl
  · have h := g_f h h1
    refine lv_iload_n hx hb dB_holds_4 rfl (lv_at hl 1 rfl) ?_
    refine lv_aload_n hx hb dB_holds_5 rfl (lv_at hl 0 rfl) ?_
    refine gf S hK hP 0 0 1 u_zB w_128 rfl rfl (by decide) rfl dB_holds_6 ?_
    refine lv_iload_n hx hb dB_holds_9 rfl (lv_at hl 2 rfl) ?_
    refine lv_isub hx hb dB_holds_10 ?_
    refine lv_icmp_gt (tgt := 18) hx hb dB_holds_11 (by decide) (fun h11 => ?_) (fun h11 => ?_)
    · have h := g_t h h11
      refine lv_iconst (v := (0 : Int32)) hx hb dB_holds_18 (by decide) ?_
      cases h
      exact pu_z S hr hlocks dB_holds_19 rfl
    · have h := g_f h h11
      refine lv_iconst (v := (1 : Int32)) hx hb dB_holds_14 (by decide) ?_
      refine lv_goto (tgt := 19) hx hb dB_holds_15 (by decide) ?_
      cases h
      exact pu_z S hr hlocks dB_holds_19 rfl
def fB_intAt_4 (N : Nat) (v1 : Int32) (b_count : Int32) (b_row : (Nat → Int32)) (rc4 : Int32 × Int32 → Option (Int32)) (v2 : Int32) (v3 : Int32) : Option (Int32) :=
  if v3 < 0 then (some (v2)) else ((fB_at (v1 + v3) b_count b_row).bind fun u16 => (rc4 ((v2 <<< ((8 : Int32) &&& 31)) ||| (u16 &&& (255 : Int32)), v3 + (-1 : Int32))))
def fB_intAt_4l (N : Nat) (v1 : Int32) (b_count : Int32) (b_row : (Nat → Int32)) : Nat → Int32 × Int32 → Option (Int32) := lp (fun rc a => fB_intAt_4 N v1 b_count b_row rc a.1 a.2)
def fB_intAt (N : Nat) (v1 : Int32) (b_count : Int32) (b_row : (Nat → Int32)) : Option (Int32) :=
  fB_intAt_4l N v1 b_count b_row N ((0 : Int32), (3 : Int32))
set_option maxHeartbeats 4000000 in
set_option maxRecDepth 100000 in
theorem cB_intAt (l : Launch) (D : va_G) (cI cJ : ClassId) (bA bA0 : Nat) (N : Nat) (v1 : Int32) (b_count : Int32) (b_row : (Nat → Int32)) (r : Int32) (h : fB_intAt N v1 b_count b_row = some r) : Pu l yB_intAt bB_intAt 4 (some .int) (rL 1) [.ref bA, .int v1] D cI cJ [(bA, .inr (0, [.ref bA0, .int b_count])), (bA0, .inl (cI, 120, .inl b_row))] (.int r) := by
  refine pu_of (by decide) (Nat.le_of_ble_eq_true rfl) ?_
  intro p e s m below meth c ls S hr hlocks hN hK hP hl
  have hx := S.1
  have hb := S.2.1
  have hl : lv_has ls 4 [(0, .ref bA), (1, .int v1)] := hl
  unfold fB_intAt at h
  have t4 : ∀ (k : Nat) (a : Int32 × Int32), fB_intAt_4l N v1 b_count b_row k a = some r → ∀ (ls : Array Slot), lv_has ls 4 [(0, .ref bA), (1, .int v1), (2, .int a.1), (3, .int a.2)] → W p l e (rL 1) s m ([.ref bA, .int v1] : List Value).toArray below meth c s.heap [] 0 0 (MQ below (fun _ st oc t => oc = .returned (some (.int r)) ∧ t.heap = st.heap) ([.ref bA, .int v1] : List Value).toArray s 0 0 (fun _ => False)) (F0 m 4 ls []) := by
    unfold fB_intAt_4l
    refine lp_some ?_
    intro rc4 hrc4 a h
    obtain ⟨v2, v3⟩ := a
    intro ls hl
    have h : fB_intAt_4 N v1 b_count b_row rc4 v2 v3 = some r := h
    have hl : lv_has ls 4 [(0, .ref bA), (1, .int v1), (2, .int v2), (3, .int v3)] := hl
    unfold fB_intAt_4 at h
    refine lv_iload_n hx hb dB_intAt_4 rfl (lv_at hl 3 rfl) ?_
    refine lv_if_lt (tgt := 31) hx hb dB_intAt_5 (by decide) (fun h5 => ?_) (fun h5 => ?_)
    · have h := g_t h h5
      refine lv_iload_n hx hb dB_intAt_31 rfl (lv_at hl 2 rfl) ?_
      cases h
      exact pu_i S hr hlocks dB_intAt_32 rfl
    · have h := g_f h h5
      refine lv_iload_n hx hb dB_intAt_8 rfl (lv_at hl 2 rfl) ?_
      refine lv_bipush (v := (8 : Int32)) hx hb dB_intAt_9 (by decide) ?_
      refine lv_ishl hx hb dB_intAt_11 ?_
      refine lv_aload_n hx hb dB_intAt_12 rfl (lv_at hl 0 rfl) ?_
      refine lv_iload_n hx hb dB_intAt_13 rfl (lv_at hl 1 rfl) ?_
      refine lv_iload_n hx hb dB_intAt_14 rfl (lv_at hl 3 rfl) ?_
      refine lv_iadd hx hb dB_intAt_15 ?_
      obtain ⟨u16, e16, h⟩ := g_bind h
      refine pu_v S hN hK hP (rest := [.int (v2 <<< ((8 : Int32) &&& 31))]) (cB_at l D cI cJ bA bA0 (v1 + v3) b_count b_row u16 e16) k_B_31 [0, 1] rfl 0 rfl rfl ⟨rfl, rfl⟩ ⟨Nat.le_of_ble_eq_true rfl, Nat.le_of_ble_eq_true rfl⟩ rfl hl.1 (Nat.le_of_ble_eq_true rfl) ⟨Nat.le_refl _, Nat.le_refl _⟩ dB_intAt_16 rfl ?_
      refine lv_sipush (v := (255 : Int32)) hx hb dB_intAt_19 (by decide) ?_
      refine lv_iand hx hb dB_intAt_22 ?_
      refine lv_ior hx hb dB_intAt_23 ?_
      refine lv_istore_n (lv' := [(2, .int ((v2 <<< ((8 : Int32) &&& 31)) ||| (u16 &&& (255 : Int32)))), (0, .ref bA), (1, .int v1), (3, .int v3)]) hx hb dB_intAt_24 rfl hl (Nat.le_of_ble_eq_true rfl) rfl (fun ls hl => ?_)
      refine lv_iinc (k := 3) (v := v3 + (-1 : Int32)) (lv' := [(3, .int (v3 + (-1 : Int32))), (2, .int ((v2 <<< ((8 : Int32) &&& 31)) ||| (u16 &&& (255 : Int32)))), (0, .ref bA), (1, .int v1)]) hx hb dB_intAt_25 hl rfl (congrArg (v3 + ·) (by decide : Int32.ofInt (-1) = (-1 : Int32))) (Nat.le_of_ble_eq_true rfl) rfl (fun ls hl => ?_)
      refine lv_goto (tgt := 4) hx hb dB_intAt_28 (by decide) ?_
      exact hrc4 ((v2 <<< ((8 : Int32) &&& 31)) ||| (u16 &&& (255 : Int32)), v3 + (-1 : Int32)) h _ (lv_sub hl [2, 3, 1, 0] rfl)
  refine lv_iconst (v := (0 : Int32)) hx hb dB_intAt_0 (by decide) ?_
  refine lv_istore_n (lv' := [(2, .int (0 : Int32)), (0, .ref bA), (1, .int v1)]) hx hb dB_intAt_1 rfl hl (Nat.le_of_ble_eq_true rfl) rfl (fun ls hl => ?_)
  refine lv_iconst (v := (3 : Int32)) hx hb dB_intAt_2 (by decide) ?_
  refine lv_istore_n (lv' := [(3, .int (3 : Int32)), (2, .int (0 : Int32)), (0, .ref bA), (1, .int v1)]) hx hb dB_intAt_3 rfl hl (Nat.le_of_ble_eq_true rfl) rfl (fun ls hl => ?_)
  exact t4 N ((0 : Int32), (3 : Int32)) h _ (lv_sub hl [2, 3, 1, 0] rfl)
def fB_longAt (N : Nat) (v1 : Int32) (b_count : Int32) (b_row : (Nat → Int32)) : Option (Int64) :=
  (fB_intAt N v1 b_count b_row).bind fun u2 => ((fB_intAt N (v1 + (4 : Int32)) b_count b_row).bind fun u15 => (some ((u15.toInt64 <<< ((32 : Int32).toInt64 &&& 63)) ||| (u2.toInt64 &&& (4294967295 : Int64)))))
set_option maxHeartbeats 4000000 in
set_option maxRecDepth 100000 in
theorem cB_longAt (l : Launch) (D : va_G) (cI cJ : ClassId) (bA bA0 : Nat) (N : Nat) (v1 : Int32) (b_count : Int32) (b_row : (Nat → Int32)) (r : Int64) (h : fB_longAt N v1 b_count b_row = some r) : Pu l yB_longAt bB_longAt 6 (some .long) (rL 2) [.ref bA, .int v1] D cI cJ [(bA, .inr (0, [.ref bA0, .int b_count])), (bA0, .inl (cI, 120, .inl b_row))] (.long r) := by
  refine pu_of (by decide) (Nat.le_of_ble_eq_true rfl) ?_
  intro p e s m below meth c ls S hr hlocks hN hK hP hl
  have hx := S.1
  have hb := S.2.1
  have hl : lv_has ls 6 [(0, .ref bA), (1, .int v1)] := hl
  unfold fB_longAt at h
  refine lv_aload_n hx hb dB_longAt_0 rfl (lv_at hl 0 rfl) ?_
  refine lv_iload_n hx hb dB_longAt_1 rfl (lv_at hl 1 rfl) ?_
  obtain ⟨u2, e2, h⟩ := g_bind h
  refine pu_v S hN hK hP (rest := []) (cB_intAt l D cI cJ bA bA0 N v1 b_count b_row u2 e2) k_B_35 [0, 1] rfl 0 rfl rfl ⟨rfl, rfl⟩ ⟨Nat.le_of_ble_eq_true rfl, Nat.le_of_ble_eq_true rfl⟩ rfl hl.1 (Nat.le_of_ble_eq_true rfl) ⟨Nat.le_refl _, Nat.le_refl _⟩ dB_longAt_2 rfl ?_
  refine lv_i2l hx hb dB_longAt_5 rfl ?_
  refine lv_ldc2 hx hb S.2.2.2.1 (S.2.2.2.2 _ w_567) dB_longAt_6 ?_
  refine lv_land hx hb dB_longAt_9 ?_
  refine lv_lstore_n (lv' := [(2, .long (u2.toInt64 &&& (4294967295 : Int64))), (0, .ref bA), (1, .int v1)]) hx hb dB_longAt_10 rfl hl (Nat.le_of_ble_eq_true rfl) rfl (fun ls hl => ?_)
  refine lv_aload_n hx hb dB_longAt_11 rfl (lv_at hl 1 rfl) ?_
  refine lv_iload_n hx hb dB_longAt_12 rfl (lv_at hl 2 rfl) ?_
  refine lv_iconst (v := (4 : Int32)) hx hb dB_longAt_13 (by decide) ?_
  refine lv_iadd hx hb dB_longAt_14 ?_
  obtain ⟨u15, e15, h⟩ := g_bind h
  refine pu_v S hN hK hP (rest := []) (cB_intAt l D cI cJ bA bA0 N (v1 + (4 : Int32)) b_count b_row u15 e15) k_B_35 [0, 1] rfl 0 rfl rfl ⟨rfl, rfl⟩ ⟨Nat.le_of_ble_eq_true rfl, Nat.le_of_ble_eq_true rfl⟩ rfl hl.1 (Nat.le_of_ble_eq_true rfl) ⟨Nat.le_refl _, Nat.le_refl _⟩ dB_longAt_15 rfl ?_
  refine lv_i2l hx hb dB_longAt_18 rfl ?_
  refine lv_lstore (lv' := [(4, .long u15.toInt64), (2, .long (u2.toInt64 &&& (4294967295 : Int64))), (0, .ref bA), (1, .int v1)]) hx hb dB_longAt_19 hl (Nat.le_of_ble_eq_true rfl) rfl (fun ls hl => ?_)
  refine lv_lload hx hb dB_longAt_21 (lv_at hl 0 rfl) ?_
  refine lv_bipush (v := (32 : Int32)) hx hb dB_longAt_23 (by decide) ?_
  refine lv_lshl hx hb dB_longAt_25 rfl ?_
  refine lv_lload_n hx hb dB_longAt_26 rfl (lv_at hl 1 rfl) ?_
  refine lv_lor hx hb dB_longAt_27 ?_
  cases h
  exact pu_l S hr hlocks dB_longAt_28 rfl
def fB_replace (v1 : Int32) (v2 : Int32) (b_count : Int32) (b_row : (Nat → Int32)) : Option (Bool × (Nat → Int32)) :=
  if v1 < 0 then (some (false, b_row)) else (if v1 < b_count then (if ok v1 120 = true then (some (true, upd b_row v1.toNatClampNeg v2)) else none) else (some (false, b_row)))
set_option maxHeartbeats 4000000 in
set_option maxRecDepth 100000 in
theorem cB_replace (l : Launch) (D : va_G) (cI cJ : ClassId) (bA bA0 : Nat) (v1 : Int32) (v2 : Int32) (b_count : Int32) (b_row : (Nat → Int32)) (r : Bool × (Nat → Int32)) (h : fB_replace v1 v2 b_count b_row = some r) : Mu l yB_replace bB_replace 3 (some .boolean) (rL 0) [.ref bA, .int v1, .int v2] D cI cJ [(bA, .inr (0, [.ref bA0, .int b_count])), (bA0, .inl (cI, 120, .inl b_row))] (some (.int (bI r.1))) [(bA, .inr (0, [.ref bA0, .int b_count])), (bA0, .inl (cI, 120, .inl r.2))] := by
  refine mu_of (by decide) (Nat.le_of_ble_eq_true rfl) ?_
  intro p e s m below meth c ls A S hr hlocks hN hK hP hD hA hl
  have hS : va_S A s.heap s.heap [] := va_S.rf
  have hx := S.1
  have hb := S.2.1
  have hl : lv_has ls 3 [(0, .ref bA), (1, .int v1), (2, .int v2)] := hl
  unfold fB_replace at h
  refine lv_iload_n hx hb dB_replace_0 rfl (lv_at hl 1 rfl) ?_
  refine lv_if_lt (tgt := 12) hx hb dB_replace_1 (by decide) (fun h1 => ?_) (fun h1 => ?_)
  · have h := g_t h h1
    refine lv_iconst (v := (0 : Int32)) hx hb dB_replace_12 (by decide) ?_
    cases h
    exact mu_z S hr hlocks hP hS dB_replace_13 rfl rfl
  · have h := g_f h h1
    refine lv_iload_n hx hb dB_replace_4 rfl (lv_at hl 1 rfl) ?_
    refine lv_aload_n hx hb dB_replace_5 rfl (lv_at hl 0 rfl) ?_
    refine gf S hK hP 0 0 1 u_zB w_128 rfl rfl (by decide) rfl dB_replace_6 ?_
    refine lv_icmp_lt (tgt := 14) hx hb dB_replace_9 (by decide) (fun h9 => ?_) (fun h9 => ?_)
    · have h := g_t h h9
      refine lv_aload_n hx hb dB_replace_14 rfl (lv_at hl 0 rfl) ?_
      refine gf S hK hP 0 0 0 u_zB w_127 rfl rfl (by decide) rfl dB_replace_15 ?_
      refine lv_iload_n hx hb dB_replace_18 rfl (lv_at hl 1 rfl) ?_
      refine lv_iload_n hx hb dB_replace_19 rfl (lv_at hl 2 rfl) ?_
      obtain ⟨b20, h⟩ := g_ok h
      refine va_iast hx hb hK hP hD hS 1 0 rfl rfl b20 dB_replace_20 (fun H locs hP hD hS => ?_)
      have hP : va_P D cs [(bA, .inr (0, [.ref bA0, .int b_count])), (bA0, .inl (cI, 120, .inl (upd b_row v1.toNatClampNeg v2)))] H := hP
      have hD : va_D A [(bA, .inr (0, [.ref bA0, .int b_count])), (bA0, .inl (cI, 120, .inl (upd b_row v1.toNatClampNeg v2)))] := hD
      refine lv_iconst (v := (1 : Int32)) hx hb dB_replace_21 (by decide) ?_
      cases h
      exact mu_z S hr hlocks hP hS dB_replace_22 rfl rfl
    · have h := g_f h h9
      refine lv_iconst (v := (0 : Int32)) hx hb dB_replace_12 (by decide) ?_
      cases h
      exact mu_z S hr hlocks hP hS dB_replace_13 rfl rfl
def fB_replaceNumber_3 (N : Nat) (v1 : Int32) (v2 : Int64) (v4 : Int32) (b_count : Int32) (rc3 : Int32 × (Nat → Int32) → Option ((Nat → Int32))) (v5 : Int32) (b_row : (Nat → Int32)) : Option ((Nat → Int32)) :=
  if v4 ≤ v5 then (some (b_row)) else ((fB_lowByte v2 v5).bind fun u19 => ((fB_replace (v1 + v5) u19 b_count b_row).bind fun u22 => (rc3 (v5 + (1 : Int32), u22.2))))
def fB_replaceNumber_3l (N : Nat) (v1 : Int32) (v2 : Int64) (v4 : Int32) (b_count : Int32) : Nat → Int32 × (Nat → Int32) → Option ((Nat → Int32)) := lp (fun rc a => fB_replaceNumber_3 N v1 v2 v4 b_count rc a.1 a.2)
def fB_replaceNumber (N : Nat) (v1 : Int32) (v2 : Int64) (v4 : Int32) (b_count : Int32) (b_row : (Nat → Int32)) : Option ((Nat → Int32)) :=
  fB_replaceNumber_3l N v1 v2 v4 b_count N ((0 : Int32), b_row)
set_option maxHeartbeats 4000000 in
set_option maxRecDepth 100000 in
theorem cB_replaceNumber (l : Launch) (D : va_G) (cI cJ : ClassId) (bA bA0 : Nat) (N : Nat) (v1 : Int32) (v2 : Int64) (v4 : Int32) (b_count : Int32) (b_row : (Nat → Int32)) (r : (Nat → Int32)) (h : fB_replaceNumber N v1 v2 v4 b_count b_row = some r) : Mu l yB_replaceNumber bB_replaceNumber 6 none (rL 1) [.ref bA, .int v1, .long v2, .int v4] D cI cJ [(bA, .inr (0, [.ref bA0, .int b_count])), (bA0, .inl (cI, 120, .inl b_row))] none [(bA, .inr (0, [.ref bA0, .int b_count])), (bA0, .inl (cI, 120, .inl r))] := by
  refine mu_of (by decide) (Nat.le_of_ble_eq_true rfl) ?_
  intro p e s m below meth c ls A S hr hlocks hN hK hP hD hA hl
  have hS : va_S A s.heap s.heap [] := va_S.rf
  have hx := S.1
  have hb := S.2.1
  have hl : lv_has ls 6 [(0, .ref bA), (1, .int v1), (2, .long v2), (4, .int v4)] := hl
  unfold fB_replaceNumber at h
  have t3 : ∀ (k : Nat) (a : Int32 × (Nat → Int32)), fB_replaceNumber_3l N v1 v2 v4 b_count k a = some r → ∀ (ls : Array Slot) (H : Heap) (locs : List Loc), lv_has ls 6 [(0, .ref bA), (1, .int v1), (2, .long v2), (4, .int v4), (5, .int a.1)] → va_P D cs [(bA, .inr (0, [.ref bA0, .int b_count])), (bA0, .inl (cI, 120, .inl a.2))] H → va_D A [(bA, .inr (0, [.ref bA0, .int b_count])), (bA0, .inl (cI, 120, .inl a.2))] → va_S A s.heap H locs → W p l e (rL 1) s m ([.ref bA, .int v1, .long v2, .int v4] : List Value).toArray below meth c H locs 0 0 (MQ below (fun _ st oc t => (oc = .returned none ∧ va_P D cs [(bA, .inr (0, [.ref bA0, .int b_count])), (bA0, .inl (cI, 120, .inl r))] t.heap) ∧ va_F A st t) ([.ref bA, .int v1, .long v2, .int v4] : List Value).toArray s 0 0 A) (F0 m 3 ls []) := by
    unfold fB_replaceNumber_3l
    refine lp_some ?_
    intro rc3 hrc3 a h
    obtain ⟨v5, b_row⟩ := a
    intro ls H locs hl hP hD hS
    have h : fB_replaceNumber_3 N v1 v2 v4 b_count rc3 v5 b_row = some r := h
    have hl : lv_has ls 6 [(0, .ref bA), (1, .int v1), (2, .long v2), (4, .int v4), (5, .int v5)] := hl
    have hP : va_P D cs [(bA, .inr (0, [.ref bA0, .int b_count])), (bA0, .inl (cI, 120, .inl b_row))] H := hP
    have hD : va_D A [(bA, .inr (0, [.ref bA0, .int b_count])), (bA0, .inl (cI, 120, .inl b_row))] := hD
    unfold fB_replaceNumber_3 at h
    refine lv_iload hx hb dB_replaceNumber_3 (lv_at hl 4 rfl) ?_
    refine lv_iload hx hb dB_replaceNumber_5 (lv_at hl 3 rfl) ?_
    refine lv_icmp_ge (tgt := 32) hx hb dB_replaceNumber_7 (by decide) (fun h7 => ?_) (fun h7 => ?_)
    · have h := g_t h h7
      cases h
      exact mu_n S hr hlocks hP hS dB_replaceNumber_32 rfl
    · have h := g_f h h7
      refine lv_aload_n hx hb dB_replaceNumber_10 rfl (lv_at hl 0 rfl) ?_
      refine lv_iload_n hx hb dB_replaceNumber_11 rfl (lv_at hl 1 rfl) ?_
      refine lv_iload hx hb dB_replaceNumber_12 (lv_at hl 4 rfl) ?_
      refine lv_iadd hx hb dB_replaceNumber_14 ?_
      refine lv_aload_n hx hb dB_replaceNumber_15 rfl (lv_at hl 0 rfl) ?_
      refine lv_lload_n hx hb dB_replaceNumber_16 rfl (lv_at hl 2 rfl) ?_
      refine lv_iload hx hb dB_replaceNumber_17 (lv_at hl 4 rfl) ?_
      obtain ⟨u19, e19, h⟩ := g_bind h
      refine pu_v S hN hK hP (rest := [.int (v1 + v5), .ref bA]) (cB_lowByte l D cI cJ bA bA0 v2 v5 b_count b_row u19 e19) k_B_19 [0, 1] rfl 0 rfl rfl ⟨rfl, rfl⟩ ⟨Nat.le_of_ble_eq_true rfl, Nat.le_of_ble_eq_true rfl⟩ rfl hl.1 (Nat.le_of_ble_eq_true rfl) ⟨Nat.le_refl _, Nat.le_refl _⟩ dB_replaceNumber_19 rfl ?_
      obtain ⟨u22, e22, h⟩ := g_bind h
      refine mu_v S hN hK hP hD hS hA (rest := []) (cB_replace l D cI cJ bA bA0 (v1 + v5) u19 b_count b_row u22 e22) k_B_27 [0, 1] rfl rfl rfl 0 rfl rfl ⟨rfl, rfl⟩ ⟨Nat.le_of_ble_eq_true rfl, Nat.le_of_ble_eq_true rfl⟩ rfl hl.1 (Nat.le_of_ble_eq_true rfl) ⟨Nat.le_refl _, Nat.le_refl _⟩ dB_replaceNumber_22 rfl (fun H locs hP hD hS => ?_)
      have hP : va_P D cs [(bA, .inr (0, [.ref bA0, .int b_count])), (bA0, .inl (cI, 120, .inl u22.2))] H := hP
      have hD : va_D A [(bA, .inr (0, [.ref bA0, .int b_count])), (bA0, .inl (cI, 120, .inl u22.2))] := hD
      refine lv_pop hx hb dB_replaceNumber_25 rfl ?_
      refine lv_iinc (k := 4) (v := v5 + (1 : Int32)) (lv' := [(5, .int (v5 + (1 : Int32))), (0, .ref bA), (1, .int v1), (2, .long v2), (4, .int v4)]) hx hb dB_replaceNumber_26 hl rfl (congrArg (v5 + ·) (by decide : Int32.ofInt (1) = (1 : Int32))) (Nat.le_of_ble_eq_true rfl) rfl (fun ls hl => ?_)
      refine lv_goto (tgt := 3) hx hb dB_replaceNumber_29 (by decide) ?_
      exact hrc3 (v5 + (1 : Int32), u22.2) h _ _ _ (lv_sub hl [1, 2, 3, 4, 0] rfl) hP hD hS
  refine lv_iconst (v := (0 : Int32)) hx hb dB_replaceNumber_0 (by decide) ?_
  refine lv_istore (lv' := [(5, .int (0 : Int32)), (0, .ref bA), (1, .int v1), (2, .long v2), (4, .int v4)]) hx hb dB_replaceNumber_1 hl (Nat.le_of_ble_eq_true rfl) rfl (fun ls hl => ?_)
  exact t3 N ((0 : Int32), b_row) h _ _ _ (lv_sub hl [1, 2, 3, 4, 0] rfl) hP hD hS
end
