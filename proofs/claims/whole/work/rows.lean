section
-- ===== PART A: goes FIRST, ahead of the names: the tables' words, and 'selects' of the private methods out of them =====
/-- a private method of a class that the tables say can be made, by its rows of tables_1 -/
def lw_okq (q : MethodName × Nat) : Prop := (q.1.cls ≠ "java/lang/invoke/MethodHandle" ∧ q.1.cls ≠ "java/lang/invoke/VarHandle") ∧ Cond.instantiable q.1.cls q.2 ∈ tables_1 ∧ Cond.privateMethod q.1 ∈ tables_1 ∧ Cond.instanceMethod q.1 ∈ tables_1
theorem lw_p0 : lw_okq (⟨"java/util/ArrayList", "add", "(Ljava/lang/Object;[Ljava/lang/Object;I)V"⟩, 3) := ⟨⟨by decide +kernel, by decide +kernel⟩, List.mem_of_getElem? (i := 41) (by decide +kernel), List.mem_of_getElem? (i := 264) (by decide +kernel), List.mem_of_getElem? (i := 265) (by decide +kernel)⟩
theorem lw_p1 : lw_okq (⟨"java/util/ArrayList", "grow", "()[Ljava/lang/Object;"⟩, 3) := ⟨⟨by decide +kernel, by decide +kernel⟩, List.mem_of_getElem? (i := 41) (by decide +kernel), List.mem_of_getElem? (i := 268) (by decide +kernel), List.mem_of_getElem? (i := 269) (by decide +kernel)⟩
theorem lw_p2 : lw_okq (⟨"java/util/ArrayList", "grow", "(I)[Ljava/lang/Object;"⟩, 3) := ⟨⟨by decide +kernel, by decide +kernel⟩, List.mem_of_getElem? (i := 41) (by decide +kernel), List.mem_of_getElem? (i := 272) (by decide +kernel), List.mem_of_getElem? (i := 273) (by decide +kernel)⟩
theorem lw_p3 : lw_okq (⟨"DiaryHouse", "isPerson", "(I)Z"⟩, 17) := ⟨⟨by decide +kernel, by decide +kernel⟩, List.mem_of_getElem? (i := 33) (by decide +kernel), List.mem_of_getElem? (i := 326) (by decide +kernel), List.mem_of_getElem? (i := 327) (by decide +kernel)⟩
theorem lw_p4 : lw_okq (⟨"DiaryHouse", "isHearing", "(III)Z"⟩, 17) := ⟨⟨by decide +kernel, by decide +kernel⟩, List.mem_of_getElem? (i := 33) (by decide +kernel), List.mem_of_getElem? (i := 333) (by decide +kernel), List.mem_of_getElem? (i := 334) (by decide +kernel)⟩
theorem lw_p5 : lw_okq (⟨"DiaryHouse", "hasStoppedBy", "(III)Z"⟩, 17) := ⟨⟨by decide +kernel, by decide +kernel⟩, List.mem_of_getElem? (i := 33) (by decide +kernel), List.mem_of_getElem? (i := 340) (by decide +kernel), List.mem_of_getElem? (i := 341) (by decide +kernel)⟩
theorem lw_p6 : lw_okq (⟨"DiaryHouse", "stopDayOf", "(II)I"⟩, 17) := ⟨⟨by decide +kernel, by decide +kernel⟩, List.mem_of_getElem? (i := 33) (by decide +kernel), List.mem_of_getElem? (i := 344) (by decide +kernel), List.mem_of_getElem? (i := 345) (by decide +kernel)⟩
theorem lw_p7 : lw_okq (⟨"DiaryHouse", "isKnownDay", "(I)Z"⟩, 17) := ⟨⟨by decide +kernel, by decide +kernel⟩, List.mem_of_getElem? (i := 33) (by decide +kernel), List.mem_of_getElem? (i := 427) (by decide +kernel), List.mem_of_getElem? (i := 428) (by decide +kernel)⟩
theorem lw_p8 : lw_okq (⟨"DiaryHouse$Tape", "readClause", "()Z"⟩, 5) := ⟨⟨by decide +kernel, by decide +kernel⟩, List.mem_of_getElem? (i := 67) (by decide +kernel), List.mem_of_getElem? (i := 462) (by decide +kernel), List.mem_of_getElem? (i := 463) (by decide +kernel)⟩
theorem lw_p9 : lw_okq (⟨"DiaryHouse$Tape", "sees", "(Ljava/lang/String;)Z"⟩, 5) := ⟨⟨by decide +kernel, by decide +kernel⟩, List.mem_of_getElem? (i := 67) (by decide +kernel), List.mem_of_getElem? (i := 467) (by decide +kernel), List.mem_of_getElem? (i := 468) (by decide +kernel)⟩
theorem lw_p10 : lw_okq (⟨"DiaryHouse$Tape", "takeSign", "()C"⟩, 5) := ⟨⟨by decide +kernel, by decide +kernel⟩, List.mem_of_getElem? (i := 67) (by decide +kernel), List.mem_of_getElem? (i := 544) (by decide +kernel), List.mem_of_getElem? (i := 545) (by decide +kernel)⟩
theorem lw_p11 : lw_okq (⟨"DiaryHouse$Tape", "addCode", "(I)V"⟩, 5) := ⟨⟨by decide +kernel, by decide +kernel⟩, List.mem_of_getElem? (i := 67) (by decide +kernel), List.mem_of_getElem? (i := 548) (by decide +kernel), List.mem_of_getElem? (i := 549) (by decide +kernel)⟩
theorem lw_p12 : lw_okq (⟨"DiaryHouse$Tape", "take", "(Ljava/lang/String;)Z"⟩, 5) := ⟨⟨by decide +kernel, by decide +kernel⟩, List.mem_of_getElem? (i := 67) (by decide +kernel), List.mem_of_getElem? (i := 553) (by decide +kernel), List.mem_of_getElem? (i := 554) (by decide +kernel)⟩
theorem lw_p13 : lw_okq (⟨"DiaryHouse$Tape", "readCondition", "(I)Z"⟩, 5) := ⟨⟨by decide +kernel, by decide +kernel⟩, List.mem_of_getElem? (i := 67) (by decide +kernel), List.mem_of_getElem? (i := 558) (by decide +kernel), List.mem_of_getElem? (i := 559) (by decide +kernel)⟩
theorem lw_p14 : lw_okq (⟨"DiaryHouse$Tape", "readPart", "(I)Z"⟩, 5) := ⟨⟨by decide +kernel, by decide +kernel⟩, List.mem_of_getElem? (i := 67) (by decide +kernel), List.mem_of_getElem? (i := 562) (by decide +kernel), List.mem_of_getElem? (i := 563) (by decide +kernel)⟩
theorem lw_p15 : lw_okq (⟨"DiaryHouse$Tape", "readUnit", "(I)Z"⟩, 5) := ⟨⟨by decide +kernel, by decide +kernel⟩, List.mem_of_getElem? (i := 67) (by decide +kernel), List.mem_of_getElem? (i := 566) (by decide +kernel), List.mem_of_getElem? (i := 567) (by decide +kernel)⟩
def lw_privs_1 : List (MethodName × Nat) := [(⟨"java/util/ArrayList", "add", "(Ljava/lang/Object;[Ljava/lang/Object;I)V"⟩, 3), (⟨"java/util/ArrayList", "grow", "()[Ljava/lang/Object;"⟩, 3), (⟨"java/util/ArrayList", "grow", "(I)[Ljava/lang/Object;"⟩, 3), (⟨"DiaryHouse", "isPerson", "(I)Z"⟩, 17), (⟨"DiaryHouse", "isHearing", "(III)Z"⟩, 17), (⟨"DiaryHouse", "hasStoppedBy", "(III)Z"⟩, 17), (⟨"DiaryHouse", "stopDayOf", "(II)I"⟩, 17), (⟨"DiaryHouse", "isKnownDay", "(I)Z"⟩, 17), (⟨"DiaryHouse$Tape", "readClause", "()Z"⟩, 5), (⟨"DiaryHouse$Tape", "sees", "(Ljava/lang/String;)Z"⟩, 5), (⟨"DiaryHouse$Tape", "takeSign", "()C"⟩, 5), (⟨"DiaryHouse$Tape", "addCode", "(I)V"⟩, 5), (⟨"DiaryHouse$Tape", "take", "(Ljava/lang/String;)Z"⟩, 5), (⟨"DiaryHouse$Tape", "readCondition", "(I)Z"⟩, 5), (⟨"DiaryHouse$Tape", "readPart", "(I)Z"⟩, 5), (⟨"DiaryHouse$Tape", "readUnit", "(I)Z"⟩, 5)]
theorem lw_r1 : ∀ q ∈ lw_privs_1, lw_okq q := List.forall_mem_cons.mpr ⟨lw_p0, List.forall_mem_cons.mpr ⟨lw_p1, List.forall_mem_cons.mpr ⟨lw_p2, List.forall_mem_cons.mpr ⟨lw_p3, List.forall_mem_cons.mpr ⟨lw_p4, List.forall_mem_cons.mpr ⟨lw_p5, List.forall_mem_cons.mpr ⟨lw_p6, List.forall_mem_cons.mpr ⟨lw_p7, List.forall_mem_cons.mpr ⟨lw_p8, List.forall_mem_cons.mpr ⟨lw_p9, List.forall_mem_cons.mpr ⟨lw_p10, List.forall_mem_cons.mpr ⟨lw_p11, List.forall_mem_cons.mpr ⟨lw_p12, List.forall_mem_cons.mpr ⟨lw_p13, List.forall_mem_cons.mpr ⟨lw_p14, List.forall_mem_cons.mpr ⟨lw_p15, fun _ h => absurd h List.not_mem_nil⟩⟩⟩⟩⟩⟩⟩⟩⟩⟩⟩⟩⟩⟩⟩⟩
theorem lw_p16 : lw_okq (⟨"DiaryHouse$Tape", "readSum", "(I)Z"⟩, 5) := ⟨⟨by decide +kernel, by decide +kernel⟩, List.mem_of_getElem? (i := 67) (by decide +kernel), List.mem_of_getElem? (i := 573) (by decide +kernel), List.mem_of_getElem? (i := 574) (by decide +kernel)⟩
theorem lw_p17 : lw_okq (⟨"DiaryHouse$Tape", "readTerm", "(I)Z"⟩, 5) := ⟨⟨by decide +kernel, by decide +kernel⟩, List.mem_of_getElem? (i := 67) (by decide +kernel), List.mem_of_getElem? (i := 577) (by decide +kernel), List.mem_of_getElem? (i := 578) (by decide +kernel)⟩
theorem lw_p18 : lw_okq (⟨"DiaryHouse$Tape", "readAtom", "(I)Z"⟩, 5) := ⟨⟨by decide +kernel, by decide +kernel⟩, List.mem_of_getElem? (i := 67) (by decide +kernel), List.mem_of_getElem? (i := 581) (by decide +kernel), List.mem_of_getElem? (i := 582) (by decide +kernel)⟩
theorem lw_p19 : lw_okq (⟨"DiaryHouse$Tape", "readNumber", "()Z"⟩, 5) := ⟨⟨by decide +kernel, by decide +kernel⟩, List.mem_of_getElem? (i := 67) (by decide +kernel), List.mem_of_getElem? (i := 588) (by decide +kernel), List.mem_of_getElem? (i := 589) (by decide +kernel)⟩
theorem lw_p20 : lw_okq (⟨"DiaryHouse$Tape", "readComparison", "(I)Z"⟩, 5) := ⟨⟨by decide +kernel, by decide +kernel⟩, List.mem_of_getElem? (i := 67) (by decide +kernel), List.mem_of_getElem? (i := 595) (by decide +kernel), List.mem_of_getElem? (i := 596) (by decide +kernel)⟩
theorem lw_p21 : lw_okq (⟨"DiaryHouse$Tape", "readMoreUnits", "(I)Z"⟩, 5) := ⟨⟨by decide +kernel, by decide +kernel⟩, List.mem_of_getElem? (i := 67) (by decide +kernel), List.mem_of_getElem? (i := 600) (by decide +kernel), List.mem_of_getElem? (i := 601) (by decide +kernel)⟩
theorem lw_p22 : lw_okq (⟨"DiaryHouse$Tape", "readMoreParts", "(I)Z"⟩, 5) := ⟨⟨by decide +kernel, by decide +kernel⟩, List.mem_of_getElem? (i := 67) (by decide +kernel), List.mem_of_getElem? (i := 605) (by decide +kernel), List.mem_of_getElem? (i := 606) (by decide +kernel)⟩
theorem lw_p23 : lw_okq (⟨"DiaryHouse", "ruleInForce", "(II)I"⟩, 17) := ⟨⟨by decide +kernel, by decide +kernel⟩, List.mem_of_getElem? (i := 33) (by decide +kernel), List.mem_of_getElem? (i := 652) (by decide +kernel), List.mem_of_getElem? (i := 653) (by decide +kernel)⟩
theorem lw_p24 : lw_okq (⟨"DiaryHouse", "setPersonLetters", "(LDiaryHouse$Person;)V"⟩, 17) := ⟨⟨by decide +kernel, by decide +kernel⟩, List.mem_of_getElem? (i := 33) (by decide +kernel), List.mem_of_getElem? (i := 660) (by decide +kernel), List.mem_of_getElem? (i := 661) (by decide +kernel)⟩
theorem lw_p25 : lw_okq (⟨"DiaryHouse", "worthOf", "(CI)I"⟩, 17) := ⟨⟨by decide +kernel, by decide +kernel⟩, List.mem_of_getElem? (i := 33) (by decide +kernel), List.mem_of_getElem? (i := 667) (by decide +kernel), List.mem_of_getElem? (i := 668) (by decide +kernel)⟩
theorem lw_p26 : lw_okq (⟨"DiaryHouse", "isLineKnown", "(II)Z"⟩, 17) := ⟨⟨by decide +kernel, by decide +kernel⟩, List.mem_of_getElem? (i := 33) (by decide +kernel), List.mem_of_getElem? (i := 708) (by decide +kernel), List.mem_of_getElem? (i := 709) (by decide +kernel)⟩
theorem lw_p27 : lw_okq (⟨"DiaryHouse", "isLine", "(I)Z"⟩, 17) := ⟨⟨by decide +kernel, by decide +kernel⟩, List.mem_of_getElem? (i := 33) (by decide +kernel), List.mem_of_getElem? (i := 712) (by decide +kernel), List.mem_of_getElem? (i := 713) (by decide +kernel)⟩
theorem lw_p28 : lw_okq (⟨"DiaryHouse", "mayBeShown", "(LDiaryHouse$Line;III)Z"⟩, 17) := ⟨⟨by decide +kernel, by decide +kernel⟩, List.mem_of_getElem? (i := 33) (by decide +kernel), List.mem_of_getElem? (i := 719) (by decide +kernel), List.mem_of_getElem? (i := 720) (by decide +kernel)⟩
theorem lw_p29 : lw_okq (⟨"DiaryHouse", "isDigest", "(IIII)Z"⟩, 17) := ⟨⟨by decide +kernel, by decide +kernel⟩, List.mem_of_getElem? (i := 33) (by decide +kernel), List.mem_of_getElem? (i := 727) (by decide +kernel), List.mem_of_getElem? (i := 728) (by decide +kernel)⟩
theorem lw_p30 : lw_okq (⟨"DiaryHouse", "pickDigest", "(IIII)I"⟩, 17) := ⟨⟨by decide +kernel, by decide +kernel⟩, List.mem_of_getElem? (i := 33) (by decide +kernel), List.mem_of_getElem? (i := 731) (by decide +kernel), List.mem_of_getElem? (i := 732) (by decide +kernel)⟩
theorem lw_p31 : lw_okq (⟨"DiaryHouse", "digestSize", "(III)I"⟩, 17) := ⟨⟨by decide +kernel, by decide +kernel⟩, List.mem_of_getElem? (i := 33) (by decide +kernel), List.mem_of_getElem? (i := 735) (by decide +kernel), List.mem_of_getElem? (i := 736) (by decide +kernel)⟩
def lw_privs_2 : List (MethodName × Nat) := [(⟨"DiaryHouse$Tape", "readSum", "(I)Z"⟩, 5), (⟨"DiaryHouse$Tape", "readTerm", "(I)Z"⟩, 5), (⟨"DiaryHouse$Tape", "readAtom", "(I)Z"⟩, 5), (⟨"DiaryHouse$Tape", "readNumber", "()Z"⟩, 5), (⟨"DiaryHouse$Tape", "readComparison", "(I)Z"⟩, 5), (⟨"DiaryHouse$Tape", "readMoreUnits", "(I)Z"⟩, 5), (⟨"DiaryHouse$Tape", "readMoreParts", "(I)Z"⟩, 5), (⟨"DiaryHouse", "ruleInForce", "(II)I"⟩, 17), (⟨"DiaryHouse", "setPersonLetters", "(LDiaryHouse$Person;)V"⟩, 17), (⟨"DiaryHouse", "worthOf", "(CI)I"⟩, 17), (⟨"DiaryHouse", "isLineKnown", "(II)Z"⟩, 17), (⟨"DiaryHouse", "isLine", "(I)Z"⟩, 17), (⟨"DiaryHouse", "mayBeShown", "(LDiaryHouse$Line;III)Z"⟩, 17), (⟨"DiaryHouse", "isDigest", "(IIII)Z"⟩, 17), (⟨"DiaryHouse", "pickDigest", "(IIII)I"⟩, 17), (⟨"DiaryHouse", "digestSize", "(III)I"⟩, 17)]
theorem lw_r2 : ∀ q ∈ lw_privs_2, lw_okq q := List.forall_mem_cons.mpr ⟨lw_p16, List.forall_mem_cons.mpr ⟨lw_p17, List.forall_mem_cons.mpr ⟨lw_p18, List.forall_mem_cons.mpr ⟨lw_p19, List.forall_mem_cons.mpr ⟨lw_p20, List.forall_mem_cons.mpr ⟨lw_p21, List.forall_mem_cons.mpr ⟨lw_p22, List.forall_mem_cons.mpr ⟨lw_p23, List.forall_mem_cons.mpr ⟨lw_p24, List.forall_mem_cons.mpr ⟨lw_p25, List.forall_mem_cons.mpr ⟨lw_p26, List.forall_mem_cons.mpr ⟨lw_p27, List.forall_mem_cons.mpr ⟨lw_p28, List.forall_mem_cons.mpr ⟨lw_p29, List.forall_mem_cons.mpr ⟨lw_p30, List.forall_mem_cons.mpr ⟨lw_p31, fun _ h => absurd h List.not_mem_nil⟩⟩⟩⟩⟩⟩⟩⟩⟩⟩⟩⟩⟩⟩⟩⟩
theorem lw_p32 : lw_okq (⟨"DiaryHouse", "insertPick", "(III)I"⟩, 17) := ⟨⟨by decide +kernel, by decide +kernel⟩, List.mem_of_getElem? (i := 33) (by decide +kernel), List.mem_of_getElem? (i := 745) (by decide +kernel), List.mem_of_getElem? (i := 746) (by decide +kernel)⟩
theorem lw_p33 : lw_okq (⟨"DiaryHouse", "strengthOf", "(I)I"⟩, 17) := ⟨⟨by decide +kernel, by decide +kernel⟩, List.mem_of_getElem? (i := 33) (by decide +kernel), List.mem_of_getElem? (i := 749) (by decide +kernel), List.mem_of_getElem? (i := 750) (by decide +kernel)⟩
theorem lw_p34 : lw_okq (⟨"DiaryHouse", "linesFor", "(II)I"⟩, 17) := ⟨⟨by decide +kernel, by decide +kernel⟩, List.mem_of_getElem? (i := 33) (by decide +kernel), List.mem_of_getElem? (i := 760) (by decide +kernel), List.mem_of_getElem? (i := 761) (by decide +kernel)⟩
theorem lw_p35 : lw_okq (⟨"DiaryHouse", "wordOf", "(III)LDiaryHouse$Line;"⟩, 17) := ⟨⟨by decide +kernel, by decide +kernel⟩, List.mem_of_getElem? (i := 33) (by decide +kernel), List.mem_of_getElem? (i := 804) (by decide +kernel), List.mem_of_getElem? (i := 805) (by decide +kernel)⟩
theorem lw_p36 : lw_okq (⟨"DiaryHouse", "layMarks", "(I)V"⟩, 17) := ⟨⟨by decide +kernel, by decide +kernel⟩, List.mem_of_getElem? (i := 33) (by decide +kernel), List.mem_of_getElem? (i := 849) (by decide +kernel), List.mem_of_getElem? (i := 850) (by decide +kernel)⟩
theorem lw_p37 : lw_okq (⟨"DiaryHouse", "readersGiving", "(II)I"⟩, 17) := ⟨⟨by decide +kernel, by decide +kernel⟩, List.mem_of_getElem? (i := 33) (by decide +kernel), List.mem_of_getElem? (i := 869) (by decide +kernel), List.mem_of_getElem? (i := 870) (by decide +kernel)⟩
theorem lw_p38 : lw_okq (⟨"DiaryHouse", "allPeople", "()I"⟩, 17) := ⟨⟨by decide +kernel, by decide +kernel⟩, List.mem_of_getElem? (i := 33) (by decide +kernel), List.mem_of_getElem? (i := 881) (by decide +kernel), List.mem_of_getElem? (i := 882) (by decide +kernel)⟩
theorem lw_p39 : lw_okq (⟨"DiaryHouse", "meanMood", "(IIIII)I"⟩, 17) := ⟨⟨by decide +kernel, by decide +kernel⟩, List.mem_of_getElem? (i := 33) (by decide +kernel), List.mem_of_getElem? (i := 885) (by decide +kernel), List.mem_of_getElem? (i := 886) (by decide +kernel)⟩
theorem lw_p40 : lw_okq (⟨"DiaryHouse$Turn", "sumAhead", "(I)I"⟩, 3) := ⟨⟨by decide +kernel, by decide +kernel⟩, List.mem_of_getElem? (i := 125) (by decide +kernel), List.mem_of_getElem? (i := 913) (by decide +kernel), List.mem_of_getElem? (i := 914) (by decide +kernel)⟩
theorem lw_p41 : lw_okq (⟨"DiaryHouse$Turn", "distance", "(III)J"⟩, 3) := ⟨⟨by decide +kernel, by decide +kernel⟩, List.mem_of_getElem? (i := 125) (by decide +kernel), List.mem_of_getElem? (i := 917) (by decide +kernel), List.mem_of_getElem? (i := 918) (by decide +kernel)⟩
theorem lw_p42 : lw_okq (⟨"DiaryHouse", "lastOf", "(II)I"⟩, 17) := ⟨⟨by decide +kernel, by decide +kernel⟩, List.mem_of_getElem? (i := 33) (by decide +kernel), List.mem_of_getElem? (i := 937) (by decide +kernel), List.mem_of_getElem? (i := 938) (by decide +kernel)⟩
theorem lw_p43 : lw_okq (⟨"DiaryHouse$Table", "planAnew", "()V"⟩, 9) := ⟨⟨by decide +kernel, by decide +kernel⟩, List.mem_of_getElem? (i := 91) (by decide +kernel), List.mem_of_getElem? (i := 956) (by decide +kernel), List.mem_of_getElem? (i := 957) (by decide +kernel)⟩
theorem lw_p44 : lw_okq (⟨"DiaryHouse$Table", "canSee", "(II)Z"⟩, 9) := ⟨⟨by decide +kernel, by decide +kernel⟩, List.mem_of_getElem? (i := 91) (by decide +kernel), List.mem_of_getElem? (i := 964) (by decide +kernel), List.mem_of_getElem? (i := 965) (by decide +kernel)⟩
theorem lw_p45 : lw_okq (⟨"DiaryHouse$Table", "canBothBeSeen", "(II)Z"⟩, 9) := ⟨⟨by decide +kernel, by decide +kernel⟩, List.mem_of_getElem? (i := 91) (by decide +kernel), List.mem_of_getElem? (i := 969) (by decide +kernel), List.mem_of_getElem? (i := 970) (by decide +kernel)⟩
theorem lw_p46 : lw_okq (⟨"DiaryHouse", "alikeTo", "(LDiaryHouse$Person;I)I"⟩, 17) := ⟨⟨by decide +kernel, by decide +kernel⟩, List.mem_of_getElem? (i := 33) (by decide +kernel), List.mem_of_getElem? (i := 1002) (by decide +kernel), List.mem_of_getElem? (i := 1003) (by decide +kernel)⟩
theorem lw_p47 : lw_okq (⟨"DiaryHouse", "allHaveAlike", "(II)Z"⟩, 17) := ⟨⟨by decide +kernel, by decide +kernel⟩, List.mem_of_getElem? (i := 33) (by decide +kernel), List.mem_of_getElem? (i := 1016) (by decide +kernel), List.mem_of_getElem? (i := 1017) (by decide +kernel)⟩
def lw_privs_3 : List (MethodName × Nat) := [(⟨"DiaryHouse", "insertPick", "(III)I"⟩, 17), (⟨"DiaryHouse", "strengthOf", "(I)I"⟩, 17), (⟨"DiaryHouse", "linesFor", "(II)I"⟩, 17), (⟨"DiaryHouse", "wordOf", "(III)LDiaryHouse$Line;"⟩, 17), (⟨"DiaryHouse", "layMarks", "(I)V"⟩, 17), (⟨"DiaryHouse", "readersGiving", "(II)I"⟩, 17), (⟨"DiaryHouse", "allPeople", "()I"⟩, 17), (⟨"DiaryHouse", "meanMood", "(IIIII)I"⟩, 17), (⟨"DiaryHouse$Turn", "sumAhead", "(I)I"⟩, 3), (⟨"DiaryHouse$Turn", "distance", "(III)J"⟩, 3), (⟨"DiaryHouse", "lastOf", "(II)I"⟩, 17), (⟨"DiaryHouse$Table", "planAnew", "()V"⟩, 9), (⟨"DiaryHouse$Table", "canSee", "(II)Z"⟩, 9), (⟨"DiaryHouse$Table", "canBothBeSeen", "(II)Z"⟩, 9), (⟨"DiaryHouse", "alikeTo", "(LDiaryHouse$Person;I)I"⟩, 17), (⟨"DiaryHouse", "allHaveAlike", "(II)Z"⟩, 17)]
theorem lw_r3 : ∀ q ∈ lw_privs_3, lw_okq q := List.forall_mem_cons.mpr ⟨lw_p32, List.forall_mem_cons.mpr ⟨lw_p33, List.forall_mem_cons.mpr ⟨lw_p34, List.forall_mem_cons.mpr ⟨lw_p35, List.forall_mem_cons.mpr ⟨lw_p36, List.forall_mem_cons.mpr ⟨lw_p37, List.forall_mem_cons.mpr ⟨lw_p38, List.forall_mem_cons.mpr ⟨lw_p39, List.forall_mem_cons.mpr ⟨lw_p40, List.forall_mem_cons.mpr ⟨lw_p41, List.forall_mem_cons.mpr ⟨lw_p42, List.forall_mem_cons.mpr ⟨lw_p43, List.forall_mem_cons.mpr ⟨lw_p44, List.forall_mem_cons.mpr ⟨lw_p45, List.forall_mem_cons.mpr ⟨lw_p46, List.forall_mem_cons.mpr ⟨lw_p47, fun _ h => absurd h List.not_mem_nil⟩⟩⟩⟩⟩⟩⟩⟩⟩⟩⟩⟩⟩⟩⟩⟩
theorem lw_p48 : lw_okq (⟨"DiaryHouse", "priceOf", "(I)I"⟩, 17) := ⟨⟨by decide +kernel, by decide +kernel⟩, List.mem_of_getElem? (i := 33) (by decide +kernel), List.mem_of_getElem? (i := 1046) (by decide +kernel), List.mem_of_getElem? (i := 1047) (by decide +kernel)⟩
theorem lw_p49 : lw_okq (⟨"DiaryHouse", "sortsOf", "(I)I"⟩, 17) := ⟨⟨by decide +kernel, by decide +kernel⟩, List.mem_of_getElem? (i := 33) (by decide +kernel), List.mem_of_getElem? (i := 1050) (by decide +kernel), List.mem_of_getElem? (i := 1051) (by decide +kernel)⟩
theorem lw_p50 : lw_okq (⟨"DiaryHouse", "isLotSize", "(I)Z"⟩, 17) := ⟨⟨by decide +kernel, by decide +kernel⟩, List.mem_of_getElem? (i := 33) (by decide +kernel), List.mem_of_getElem? (i := 1071) (by decide +kernel), List.mem_of_getElem? (i := 1072) (by decide +kernel)⟩
theorem lw_p51 : lw_okq (⟨"DiaryHouse", "draw", "(IJ)V"⟩, 17) := ⟨⟨by decide +kernel, by decide +kernel⟩, List.mem_of_getElem? (i := 33) (by decide +kernel), List.mem_of_getElem? (i := 1075) (by decide +kernel), List.mem_of_getElem? (i := 1076) (by decide +kernel)⟩
theorem lw_p52 : lw_okq (⟨"DiaryHouse", "isDrawn", "(II)Z"⟩, 17) := ⟨⟨by decide +kernel, by decide +kernel⟩, List.mem_of_getElem? (i := 33) (by decide +kernel), List.mem_of_getElem? (i := 1085) (by decide +kernel), List.mem_of_getElem? (i := 1086) (by decide +kernel)⟩
theorem lw_p53 : lw_okq (⟨"DiaryHouse", "personsGone", "()I"⟩, 17) := ⟨⟨by decide +kernel, by decide +kernel⟩, List.mem_of_getElem? (i := 33) (by decide +kernel), List.mem_of_getElem? (i := 1097) (by decide +kernel), List.mem_of_getElem? (i := 1098) (by decide +kernel)⟩
theorem lw_p54 : lw_okq (⟨"java/lang/Throwable", "fillInStackTrace", "(I)Ljava/lang/Throwable;"⟩, 6) := ⟨⟨by decide +kernel, by decide +kernel⟩, List.mem_of_getElem? (i := 1145) (by decide +kernel), List.mem_of_getElem? (i := 1143) (by decide +kernel), List.mem_of_getElem? (i := 1144) (by decide +kernel)⟩
theorem lw_p55 : lw_okq (⟨"DiaryHouseModel", "isPerson", "(I)Z"⟩, 66) := ⟨⟨by decide +kernel, by decide +kernel⟩, List.mem_of_getElem? (i := 1178) (by decide +kernel), List.mem_of_getElem? (i := 1403) (by decide +kernel), List.mem_of_getElem? (i := 1404) (by decide +kernel)⟩
theorem lw_p56 : lw_okq (⟨"DiaryHouseModel", "stopsFrom", "(II)I"⟩, 66) := ⟨⟨by decide +kernel, by decide +kernel⟩, List.mem_of_getElem? (i := 1178) (by decide +kernel), List.mem_of_getElem? (i := 1410) (by decide +kernel), List.mem_of_getElem? (i := 1411) (by decide +kernel)⟩
theorem lw_p57 : lw_okq (⟨"DiaryHouseModel", "isLine", "(I)Z"⟩, 66) := ⟨⟨by decide +kernel, by decide +kernel⟩, List.mem_of_getElem? (i := 1178) (by decide +kernel), List.mem_of_getElem? (i := 1418) (by decide +kernel), List.mem_of_getElem? (i := 1419) (by decide +kernel)⟩
theorem lw_p58 : lw_okq (⟨"DiaryHouseModel", "isKnown", "(I)Z"⟩, 66) := ⟨⟨by decide +kernel, by decide +kernel⟩, List.mem_of_getElem? (i := 1178) (by decide +kernel), List.mem_of_getElem? (i := 1433) (by decide +kernel), List.mem_of_getElem? (i := 1434) (by decide +kernel)⟩
theorem lw_p59 : lw_okq (⟨"DiaryHouseModel", "put", "(I)V"⟩, 66) := ⟨⟨by decide +kernel, by decide +kernel⟩, List.mem_of_getElem? (i := 1178) (by decide +kernel), List.mem_of_getElem? (i := 1444) (by decide +kernel), List.mem_of_getElem? (i := 1445) (by decide +kernel)⟩
theorem lw_p60 : lw_okq (⟨"DiaryHouseModel", "goThrough", "([BIII)V"⟩, 66) := ⟨⟨by decide +kernel, by decide +kernel⟩, List.mem_of_getElem? (i := 1178) (by decide +kernel), List.mem_of_getElem? (i := 1456) (by decide +kernel), List.mem_of_getElem? (i := 1457) (by decide +kernel)⟩
theorem lw_p61 : lw_okq (⟨"DiaryHouseModel", "clause", "()V"⟩, 66) := ⟨⟨by decide +kernel, by decide +kernel⟩, List.mem_of_getElem? (i := 1178) (by decide +kernel), List.mem_of_getElem? (i := 1460) (by decide +kernel), List.mem_of_getElem? (i := 1461) (by decide +kernel)⟩
theorem lw_p62 : lw_okq (⟨"DiaryHouseModel", "look", "()I"⟩, 66) := ⟨⟨by decide +kernel, by decide +kernel⟩, List.mem_of_getElem? (i := 1178) (by decide +kernel), List.mem_of_getElem? (i := 1464) (by decide +kernel), List.mem_of_getElem? (i := 1465) (by decide +kernel)⟩
theorem lw_p63 : lw_okq (⟨"DiaryHouseModel", "fails", "()Z"⟩, 66) := ⟨⟨by decide +kernel, by decide +kernel⟩, List.mem_of_getElem? (i := 1178) (by decide +kernel), List.mem_of_getElem? (i := 1470) (by decide +kernel), List.mem_of_getElem? (i := 1471) (by decide +kernel)⟩
def lw_privs_4 : List (MethodName × Nat) := [(⟨"DiaryHouse", "priceOf", "(I)I"⟩, 17), (⟨"DiaryHouse", "sortsOf", "(I)I"⟩, 17), (⟨"DiaryHouse", "isLotSize", "(I)Z"⟩, 17), (⟨"DiaryHouse", "draw", "(IJ)V"⟩, 17), (⟨"DiaryHouse", "isDrawn", "(II)Z"⟩, 17), (⟨"DiaryHouse", "personsGone", "()I"⟩, 17), (⟨"java/lang/Throwable", "fillInStackTrace", "(I)Ljava/lang/Throwable;"⟩, 6), (⟨"DiaryHouseModel", "isPerson", "(I)Z"⟩, 66), (⟨"DiaryHouseModel", "stopsFrom", "(II)I"⟩, 66), (⟨"DiaryHouseModel", "isLine", "(I)Z"⟩, 66), (⟨"DiaryHouseModel", "isKnown", "(I)Z"⟩, 66), (⟨"DiaryHouseModel", "put", "(I)V"⟩, 66), (⟨"DiaryHouseModel", "goThrough", "([BIII)V"⟩, 66), (⟨"DiaryHouseModel", "clause", "()V"⟩, 66), (⟨"DiaryHouseModel", "look", "()I"⟩, 66), (⟨"DiaryHouseModel", "fails", "()Z"⟩, 66)]
theorem lw_r4 : ∀ q ∈ lw_privs_4, lw_okq q := List.forall_mem_cons.mpr ⟨lw_p48, List.forall_mem_cons.mpr ⟨lw_p49, List.forall_mem_cons.mpr ⟨lw_p50, List.forall_mem_cons.mpr ⟨lw_p51, List.forall_mem_cons.mpr ⟨lw_p52, List.forall_mem_cons.mpr ⟨lw_p53, List.forall_mem_cons.mpr ⟨lw_p54, List.forall_mem_cons.mpr ⟨lw_p55, List.forall_mem_cons.mpr ⟨lw_p56, List.forall_mem_cons.mpr ⟨lw_p57, List.forall_mem_cons.mpr ⟨lw_p58, List.forall_mem_cons.mpr ⟨lw_p59, List.forall_mem_cons.mpr ⟨lw_p60, List.forall_mem_cons.mpr ⟨lw_p61, List.forall_mem_cons.mpr ⟨lw_p62, List.forall_mem_cons.mpr ⟨lw_p63, fun _ h => absurd h List.not_mem_nil⟩⟩⟩⟩⟩⟩⟩⟩⟩⟩⟩⟩⟩⟩⟩⟩
theorem lw_p64 : lw_okq (⟨"DiaryHouseModel", "takes", "(I)Z"⟩, 66) := ⟨⟨by decide +kernel, by decide +kernel⟩, List.mem_of_getElem? (i := 1178) (by decide +kernel), List.mem_of_getElem? (i := 1474) (by decide +kernel), List.mem_of_getElem? (i := 1475) (by decide +kernel)⟩
theorem lw_p65 : lw_okq (⟨"DiaryHouseModel", "condition", "(ZI)Z"⟩, 66) := ⟨⟨by decide +kernel, by decide +kernel⟩, List.mem_of_getElem? (i := 1178) (by decide +kernel), List.mem_of_getElem? (i := 1478) (by decide +kernel), List.mem_of_getElem? (i := 1479) (by decide +kernel)⟩
theorem lw_p66 : lw_okq (⟨"DiaryHouseModel", "part", "(ZI)Z"⟩, 66) := ⟨⟨by decide +kernel, by decide +kernel⟩, List.mem_of_getElem? (i := 1178) (by decide +kernel), List.mem_of_getElem? (i := 1482) (by decide +kernel), List.mem_of_getElem? (i := 1483) (by decide +kernel)⟩
theorem lw_p67 : lw_okq (⟨"DiaryHouseModel", "compares", "(ZI)Z"⟩, 66) := ⟨⟨by decide +kernel, by decide +kernel⟩, List.mem_of_getElem? (i := 1178) (by decide +kernel), List.mem_of_getElem? (i := 1486) (by decide +kernel), List.mem_of_getElem? (i := 1487) (by decide +kernel)⟩
theorem lw_p68 : lw_okq (⟨"DiaryHouseModel", "sum", "()I"⟩, 66) := ⟨⟨by decide +kernel, by decide +kernel⟩, List.mem_of_getElem? (i := 1178) (by decide +kernel), List.mem_of_getElem? (i := 1490) (by decide +kernel), List.mem_of_getElem? (i := 1491) (by decide +kernel)⟩
theorem lw_p69 : lw_okq (⟨"DiaryHouseModel", "term", "()I"⟩, 66) := ⟨⟨by decide +kernel, by decide +kernel⟩, List.mem_of_getElem? (i := 1178) (by decide +kernel), List.mem_of_getElem? (i := 1494) (by decide +kernel), List.mem_of_getElem? (i := 1495) (by decide +kernel)⟩
theorem lw_p70 : lw_okq (⟨"DiaryHouseModel", "atom", "()I"⟩, 66) := ⟨⟨by decide +kernel, by decide +kernel⟩, List.mem_of_getElem? (i := 1178) (by decide +kernel), List.mem_of_getElem? (i := 1498) (by decide +kernel), List.mem_of_getElem? (i := 1499) (by decide +kernel)⟩
theorem lw_p71 : lw_okq (⟨"DiaryHouseModel", "goesIn", "()Z"⟩, 66) := ⟨⟨by decide +kernel, by decide +kernel⟩, List.mem_of_getElem? (i := 1178) (by decide +kernel), List.mem_of_getElem? (i := 1503) (by decide +kernel), List.mem_of_getElem? (i := 1504) (by decide +kernel)⟩
theorem lw_p72 : lw_okq (⟨"DiaryHouseModel", "isDigit", "()Z"⟩, 66) := ⟨⟨by decide +kernel, by decide +kernel⟩, List.mem_of_getElem? (i := 1178) (by decide +kernel), List.mem_of_getElem? (i := 1507) (by decide +kernel), List.mem_of_getElem? (i := 1508) (by decide +kernel)⟩
theorem lw_p73 : lw_okq (⟨"DiaryHouseModel", "unit", "()Z"⟩, 66) := ⟨⟨by decide +kernel, by decide +kernel⟩, List.mem_of_getElem? (i := 1178) (by decide +kernel), List.mem_of_getElem? (i := 1521) (by decide +kernel), List.mem_of_getElem? (i := 1522) (by decide +kernel)⟩
theorem lw_p74 : lw_okq (⟨"DiaryHouseModel", "ruleOn", "(II)I"⟩, 66) := ⟨⟨by decide +kernel, by decide +kernel⟩, List.mem_of_getElem? (i := 1178) (by decide +kernel), List.mem_of_getElem? (i := 1533) (by decide +kernel), List.mem_of_getElem? (i := 1534) (by decide +kernel)⟩
theorem lw_p75 : lw_okq (⟨"DiaryHouseModel", "noLetters", "()V"⟩, 66) := ⟨⟨by decide +kernel, by decide +kernel⟩, List.mem_of_getElem? (i := 1178) (by decide +kernel), List.mem_of_getElem? (i := 1541) (by decide +kernel), List.mem_of_getElem? (i := 1542) (by decide +kernel)⟩
theorem lw_p76 : lw_okq (⟨"DiaryHouseModel", "letPerson", "(I)V"⟩, 66) := ⟨⟨by decide +kernel, by decide +kernel⟩, List.mem_of_getElem? (i := 1178) (by decide +kernel), List.mem_of_getElem? (i := 1545) (by decide +kernel), List.mem_of_getElem? (i := 1546) (by decide +kernel)⟩
theorem lw_p77 : lw_okq (⟨"DiaryHouseModel", "worth", "(III)I"⟩, 66) := ⟨⟨by decide +kernel, by decide +kernel⟩, List.mem_of_getElem? (i := 1178) (by decide +kernel), List.mem_of_getElem? (i := 1549) (by decide +kernel), List.mem_of_getElem? (i := 1550) (by decide +kernel)⟩
theorem lw_p78 : lw_okq (⟨"DiaryHouseModel", "isLineBy", "(II)Z"⟩, 66) := ⟨⟨by decide +kernel, by decide +kernel⟩, List.mem_of_getElem? (i := 1178) (by decide +kernel), List.mem_of_getElem? (i := 1557) (by decide +kernel), List.mem_of_getElem? (i := 1558) (by decide +kernel)⟩
theorem lw_p79 : lw_okq (⟨"DiaryHouseModel", "mayShow", "(IIII)Z"⟩, 66) := ⟨⟨by decide +kernel, by decide +kernel⟩, List.mem_of_getElem? (i := 1178) (by decide +kernel), List.mem_of_getElem? (i := 1561) (by decide +kernel), List.mem_of_getElem? (i := 1562) (by decide +kernel)⟩
def lw_privs_5 : List (MethodName × Nat) := [(⟨"DiaryHouseModel", "takes", "(I)Z"⟩, 66), (⟨"DiaryHouseModel", "condition", "(ZI)Z"⟩, 66), (⟨"DiaryHouseModel", "part", "(ZI)Z"⟩, 66), (⟨"DiaryHouseModel", "compares", "(ZI)Z"⟩, 66), (⟨"DiaryHouseModel", "sum", "()I"⟩, 66), (⟨"DiaryHouseModel", "term", "()I"⟩, 66), (⟨"DiaryHouseModel", "atom", "()I"⟩, 66), (⟨"DiaryHouseModel", "goesIn", "()Z"⟩, 66), (⟨"DiaryHouseModel", "isDigit", "()Z"⟩, 66), (⟨"DiaryHouseModel", "unit", "()Z"⟩, 66), (⟨"DiaryHouseModel", "ruleOn", "(II)I"⟩, 66), (⟨"DiaryHouseModel", "noLetters", "()V"⟩, 66), (⟨"DiaryHouseModel", "letPerson", "(I)V"⟩, 66), (⟨"DiaryHouseModel", "worth", "(III)I"⟩, 66), (⟨"DiaryHouseModel", "isLineBy", "(II)Z"⟩, 66), (⟨"DiaryHouseModel", "mayShow", "(IIII)Z"⟩, 66)]
theorem lw_r5 : ∀ q ∈ lw_privs_5, lw_okq q := List.forall_mem_cons.mpr ⟨lw_p64, List.forall_mem_cons.mpr ⟨lw_p65, List.forall_mem_cons.mpr ⟨lw_p66, List.forall_mem_cons.mpr ⟨lw_p67, List.forall_mem_cons.mpr ⟨lw_p68, List.forall_mem_cons.mpr ⟨lw_p69, List.forall_mem_cons.mpr ⟨lw_p70, List.forall_mem_cons.mpr ⟨lw_p71, List.forall_mem_cons.mpr ⟨lw_p72, List.forall_mem_cons.mpr ⟨lw_p73, List.forall_mem_cons.mpr ⟨lw_p74, List.forall_mem_cons.mpr ⟨lw_p75, List.forall_mem_cons.mpr ⟨lw_p76, List.forall_mem_cons.mpr ⟨lw_p77, List.forall_mem_cons.mpr ⟨lw_p78, List.forall_mem_cons.mpr ⟨lw_p79, fun _ h => absurd h List.not_mem_nil⟩⟩⟩⟩⟩⟩⟩⟩⟩⟩⟩⟩⟩⟩⟩⟩
theorem lw_p80 : lw_okq (⟨"DiaryHouseModel", "digests", "(IIII)Z"⟩, 66) := ⟨⟨by decide +kernel, by decide +kernel⟩, List.mem_of_getElem? (i := 1178) (by decide +kernel), List.mem_of_getElem? (i := 1569) (by decide +kernel), List.mem_of_getElem? (i := 1570) (by decide +kernel)⟩
theorem lw_p81 : lw_okq (⟨"DiaryHouseModel", "wordOf", "(III)I"⟩, 66) := ⟨⟨by decide +kernel, by decide +kernel⟩, List.mem_of_getElem? (i := 1178) (by decide +kernel), List.mem_of_getElem? (i := 1592) (by decide +kernel), List.mem_of_getElem? (i := 1593) (by decide +kernel)⟩
theorem lw_p82 : lw_okq (⟨"DiaryHouseModel", "markOf", "(III)I"⟩, 66) := ⟨⟨by decide +kernel, by decide +kernel⟩, List.mem_of_getElem? (i := 1178) (by decide +kernel), List.mem_of_getElem? (i := 1611) (by decide +kernel), List.mem_of_getElem? (i := 1612) (by decide +kernel)⟩
theorem lw_p83 : lw_okq (⟨"DiaryHouseModel", "people", "()I"⟩, 66) := ⟨⟨by decide +kernel, by decide +kernel⟩, List.mem_of_getElem? (i := 1178) (by decide +kernel), List.mem_of_getElem? (i := 1636) (by decide +kernel), List.mem_of_getElem? (i := 1637) (by decide +kernel)⟩
theorem lw_p84 : lw_okq (⟨"DiaryHouseModel", "stratum", "(I)I"⟩, 66) := ⟨⟨by decide +kernel, by decide +kernel⟩, List.mem_of_getElem? (i := 1178) (by decide +kernel), List.mem_of_getElem? (i := 1640) (by decide +kernel), List.mem_of_getElem? (i := 1641) (by decide +kernel)⟩
theorem lw_p85 : lw_okq (⟨"DiaryHouseModel", "apart", "(II)J"⟩, 66) := ⟨⟨by decide +kernel, by decide +kernel⟩, List.mem_of_getElem? (i := 1178) (by decide +kernel), List.mem_of_getElem? (i := 1653) (by decide +kernel), List.mem_of_getElem? (i := 1654) (by decide +kernel)⟩
theorem lw_p86 : lw_okq (⟨"DiaryHouseModel", "lastOf", "(II)I"⟩, 66) := ⟨⟨by decide +kernel, by decide +kernel⟩, List.mem_of_getElem? (i := 1178) (by decide +kernel), List.mem_of_getElem? (i := 1662) (by decide +kernel), List.mem_of_getElem? (i := 1663) (by decide +kernel)⟩
theorem lw_p87 : lw_okq (⟨"DiaryHouseModel", "isStopped", "(II)Z"⟩, 66) := ⟨⟨by decide +kernel, by decide +kernel⟩, List.mem_of_getElem? (i := 1178) (by decide +kernel), List.mem_of_getElem? (i := 1670) (by decide +kernel), List.mem_of_getElem? (i := 1671) (by decide +kernel)⟩
theorem lw_p88 : lw_okq (⟨"DiaryHouseModel", "tryTable", "(II)V"⟩, 66) := ⟨⟨by decide +kernel, by decide +kernel⟩, List.mem_of_getElem? (i := 1178) (by decide +kernel), List.mem_of_getElem? (i := 1686) (by decide +kernel), List.mem_of_getElem? (i := 1687) (by decide +kernel)⟩
theorem lw_p89 : lw_okq (⟨"DiaryHouseModel", "maySee", "(II)Z"⟩, 66) := ⟨⟨by decide +kernel, by decide +kernel⟩, List.mem_of_getElem? (i := 1178) (by decide +kernel), List.mem_of_getElem? (i := 1690) (by decide +kernel), List.mem_of_getElem? (i := 1691) (by decide +kernel)⟩
theorem lw_p90 : lw_okq (⟨"DiaryHouseModel", "alikeOf", "(II)I"⟩, 66) := ⟨⟨by decide +kernel, by decide +kernel⟩, List.mem_of_getElem? (i := 1178) (by decide +kernel), List.mem_of_getElem? (i := 1698) (by decide +kernel), List.mem_of_getElem? (i := 1699) (by decide +kernel)⟩
theorem lw_p91 : lw_okq (⟨"DiaryHouseModel", "priceOf", "(I)I"⟩, 66) := ⟨⟨by decide +kernel, by decide +kernel⟩, List.mem_of_getElem? (i := 1178) (by decide +kernel), List.mem_of_getElem? (i := 1715) (by decide +kernel), List.mem_of_getElem? (i := 1716) (by decide +kernel)⟩
theorem lw_p92 : lw_okq (⟨"DiaryHouseModel", "sortsOf", "(I)I"⟩, 66) := ⟨⟨by decide +kernel, by decide +kernel⟩, List.mem_of_getElem? (i := 1178) (by decide +kernel), List.mem_of_getElem? (i := 1719) (by decide +kernel), List.mem_of_getElem? (i := 1720) (by decide +kernel)⟩
theorem lw_p93 : lw_okq (⟨"DiaryHouseModel", "draws", "(IJ)Z"⟩, 66) := ⟨⟨by decide +kernel, by decide +kernel⟩, List.mem_of_getElem? (i := 1178) (by decide +kernel), List.mem_of_getElem? (i := 1731) (by decide +kernel), List.mem_of_getElem? (i := 1732) (by decide +kernel)⟩
def lw_privs_6 : List (MethodName × Nat) := [(⟨"DiaryHouseModel", "digests", "(IIII)Z"⟩, 66), (⟨"DiaryHouseModel", "wordOf", "(III)I"⟩, 66), (⟨"DiaryHouseModel", "markOf", "(III)I"⟩, 66), (⟨"DiaryHouseModel", "people", "()I"⟩, 66), (⟨"DiaryHouseModel", "stratum", "(I)I"⟩, 66), (⟨"DiaryHouseModel", "apart", "(II)J"⟩, 66), (⟨"DiaryHouseModel", "lastOf", "(II)I"⟩, 66), (⟨"DiaryHouseModel", "isStopped", "(II)Z"⟩, 66), (⟨"DiaryHouseModel", "tryTable", "(II)V"⟩, 66), (⟨"DiaryHouseModel", "maySee", "(II)Z"⟩, 66), (⟨"DiaryHouseModel", "alikeOf", "(II)I"⟩, 66), (⟨"DiaryHouseModel", "priceOf", "(I)I"⟩, 66), (⟨"DiaryHouseModel", "sortsOf", "(I)I"⟩, 66), (⟨"DiaryHouseModel", "draws", "(IJ)Z"⟩, 66)]
theorem lw_r6 : ∀ q ∈ lw_privs_6, lw_okq q := List.forall_mem_cons.mpr ⟨lw_p80, List.forall_mem_cons.mpr ⟨lw_p81, List.forall_mem_cons.mpr ⟨lw_p82, List.forall_mem_cons.mpr ⟨lw_p83, List.forall_mem_cons.mpr ⟨lw_p84, List.forall_mem_cons.mpr ⟨lw_p85, List.forall_mem_cons.mpr ⟨lw_p86, List.forall_mem_cons.mpr ⟨lw_p87, List.forall_mem_cons.mpr ⟨lw_p88, List.forall_mem_cons.mpr ⟨lw_p89, List.forall_mem_cons.mpr ⟨lw_p90, List.forall_mem_cons.mpr ⟨lw_p91, List.forall_mem_cons.mpr ⟨lw_p92, List.forall_mem_cons.mpr ⟨lw_p93, fun _ h => absurd h List.not_mem_nil⟩⟩⟩⟩⟩⟩⟩⟩⟩⟩⟩⟩⟩⟩
def lw_privs : List (MethodName × Nat) := lw_privs_1 ++ (lw_privs_2 ++ (lw_privs_3 ++ (lw_privs_4 ++ (lw_privs_5 ++ (lw_privs_6)))))
def lw_tbl : List Cond := k2_sels lw_privs ++ tables_1
theorem lw_privs_ok : ∀ q ∈ lw_privs, lw_okq q := by
  show ∀ q ∈ lw_privs_1 ++ (lw_privs_2 ++ (lw_privs_3 ++ (lw_privs_4 ++ (lw_privs_5 ++ (lw_privs_6))))), lw_okq q
  exact List.forall_mem_append.mpr ⟨lw_r1, List.forall_mem_append.mpr ⟨lw_r2, List.forall_mem_append.mpr ⟨lw_r3, List.forall_mem_append.mpr ⟨lw_r4, List.forall_mem_append.mpr ⟨lw_r5, lw_r6⟩⟩⟩⟩⟩
end
section
def RX0 : String := "DiaryHouse$Happening"
def TX0 : u_T := fun k => match k with
  | 0 => ("DiaryHouse$Happening", "place", "I", true)
  | 1 => ("DiaryHouse$Happening", "day", "I", true)
  | 2 => ("DiaryHouse$Happening", "sort", "I", true)
  | 3 => ("DiaryHouse$Happening", "is", "Z", true)
  | _ => ("DiaryHouse$Happening", "told", "I", true)
def tyX0 : Nat → FieldType := fun k => match k with
  | 0 => .int
  | 1 => .int
  | 2 => .int
  | 3 => .boolean
  | _ => .int
abbrev wsX00 : List Cond := u_ws RX0 TX0 5
theorem nmX0 : ∀ a, a < 5 → ∀ b, b < 5 → a ≠ b → (TX0 a).2.1 ≠ (TX0 b).2.1 := by decide +kernel
theorem tyX0_ok : ∀ k, k < 5 → parseFieldDescriptor (TX0 k).2.2.1 = some (tyX0 k) := by decide +kernel
abbrev cX0_init : ByteArray := prog_2_method_1_code
def yX0_init : MethodName := ⟨RX0, "<init>", "(IIIZI)V"⟩
abbrev cX0_isOf : ByteArray := prog_2_method_2_code
def yX0_isOf : MethodName := ⟨RX0, "isOf", "(III)Z"⟩
def RX1 : String := "DiaryHouse$Line"
def TX1 : u_T := fun k => match k with
  | 0 => ("DiaryHouse$Line", "person", "I", true)
  | 1 => ("DiaryHouse$Line", "day", "I", true)
  | 2 => ("DiaryHouse$Line", "sort", "I", true)
  | 3 => ("DiaryHouse$Line", "mood", "I", true)
  | 4 => ("DiaryHouse$Line", "saying", "I", true)
  | 5 => ("DiaryHouse$Line", "from", "I", true)
  | _ => ("DiaryHouse$Line", "told", "I", true)
def tyX1 : Nat → FieldType := fun k => match k with
  | 0 => .int
  | 1 => .int
  | 2 => .int
  | 3 => .int
  | 4 => .int
  | 5 => .int
  | _ => .int
abbrev wsX10 : List Cond := u_ws RX1 TX1 7
theorem nmX1 : ∀ a, a < 7 → ∀ b, b < 7 → a ≠ b → (TX1 a).2.1 ≠ (TX1 b).2.1 := by decide +kernel
theorem tyX1_ok : ∀ k, k < 7 → parseFieldDescriptor (TX1 k).2.2.1 = some (tyX1 k) := by decide +kernel
abbrev cX1_init : ByteArray := prog_3_method_1_code
def yX1_init : MethodName := ⟨RX1, "<init>", "(IIIIIII)V"⟩
abbrev cX1_isFor : ByteArray := prog_3_method_2_code
def yX1_isFor : MethodName := ⟨RX1, "isFor", "(II)Z"⟩
abbrev cX1_part : ByteArray := prog_3_method_3_code
def yX1_part : MethodName := ⟨RX1, "part", "(I)I"⟩
def RX2 : String := "DiaryHouse$Mark"
def TX2 : u_T := fun k => match k with
  | 0 => ("DiaryHouse$Mark", "reader", "I", true)
  | 1 => ("DiaryHouse$Mark", "line", "I", true)
  | 2 => ("DiaryHouse$Mark", "value", "I", true)
  | _ => ("DiaryHouse$Mark", "told", "I", true)
def tyX2 : Nat → FieldType := fun k => match k with
  | 0 => .int
  | 1 => .int
  | 2 => .int
  | _ => .int
abbrev wsX20 : List Cond := u_ws RX2 TX2 4
theorem nmX2 : ∀ a, a < 4 → ∀ b, b < 4 → a ≠ b → (TX2 a).2.1 ≠ (TX2 b).2.1 := by decide +kernel
theorem tyX2_ok : ∀ k, k < 4 → parseFieldDescriptor (TX2 k).2.2.1 = some (tyX2 k) := by decide +kernel
abbrev cX2_init : ByteArray := prog_4_method_1_code
def yX2_init : MethodName := ⟨RX2, "<init>", "(IIII)V"⟩
def RX3 : String := "DiaryHouse$Numbers"
def TX3 : u_T := fun k => match k with
  | 0 => ("DiaryHouse$Numbers", "room", "[I", true)
  | _ => ("DiaryHouse$Numbers", "size", "I", false)
def tyX3 : Nat → FieldType := fun k => match k with
  | 0 => .array .int
  | _ => .int
abbrev wsX30 : List Cond := u_ws RX3 TX3 2
theorem nmX3 : ∀ a, a < 2 → ∀ b, b < 2 → a ≠ b → (TX3 a).2.1 ≠ (TX3 b).2.1 := by decide +kernel
theorem tyX3_ok : ∀ k, k < 2 → parseFieldDescriptor (TX3 k).2.2.1 = some (tyX3 k) := by decide +kernel
abbrev cX3_init : ByteArray := prog_5_method_1_code
def yX3_init : MethodName := ⟨RX3, "<init>", "()V"⟩
abbrev cX3_clear : ByteArray := prog_5_method_2_code
def yX3_clear : MethodName := ⟨RX3, "clear", "()V"⟩
abbrev cX3_push : ByteArray := prog_5_method_3_code
def yX3_push : MethodName := ⟨RX3, "push", "(I)V"⟩
abbrev cX3_pop : ByteArray := prog_5_method_4_code
def yX3_pop : MethodName := ⟨RX3, "pop", "()I"⟩
def RX4 : String := "DiaryHouse$Person"
def TX4 : u_T := fun k => match k with
  | 0 => ("DiaryHouse$Person", "place", "I", true)
  | 1 => ("DiaryHouse$Person", "age", "I", true)
  | 2 => ("DiaryHouse$Person", "work", "I", true)
  | _ => ("DiaryHouse$Person", "stratum", "I", true)
def tyX4 : Nat → FieldType := fun k => match k with
  | 0 => .int
  | 1 => .int
  | 2 => .int
  | _ => .int
abbrev wsX40 : List Cond := u_ws RX4 TX4 4
theorem nmX4 : ∀ a, a < 4 → ∀ b, b < 4 → a ≠ b → (TX4 a).2.1 ≠ (TX4 b).2.1 := by decide +kernel
theorem tyX4_ok : ∀ k, k < 4 → parseFieldDescriptor (TX4 k).2.2.1 = some (tyX4 k) := by decide +kernel
abbrev cX4_init : ByteArray := prog_6_method_1_code
def yX4_init : MethodName := ⟨RX4, "<init>", "(III)V"⟩
abbrev cX4_livesIn : ByteArray := prog_6_method_2_code
def yX4_livesIn : MethodName := ⟨RX4, "livesIn", "(II)Z"⟩
abbrev cX4_isLike : ByteArray := prog_6_method_3_code
def yX4_isLike : MethodName := ⟨RX4, "isLike", "(LDiaryHouse$Person;I)Z"⟩
def RX5 : String := "DiaryHouse$Question"
def TX5 : u_T := fun k => match k with
  | 0 => ("DiaryHouse$Question", "price", "I", true)
  | _ => ("DiaryHouse$Question", "sorts", "I", true)
def tyX5 : Nat → FieldType := fun k => match k with
  | 0 => .int
  | _ => .int
abbrev wsX50 : List Cond := u_ws RX5 TX5 2
theorem nmX5 : ∀ a, a < 2 → ∀ b, b < 2 → a ≠ b → (TX5 a).2.1 ≠ (TX5 b).2.1 := by decide +kernel
theorem tyX5_ok : ∀ k, k < 2 → parseFieldDescriptor (TX5 k).2.2.1 = some (tyX5 k) := by decide +kernel
abbrev cX5_init : ByteArray := prog_7_method_1_code
def yX5_init : MethodName := ⟨RX5, "<init>", "(II)V"⟩
def RX6 : String := "DiaryHouse$Rule"
def TX6 : u_T := fun k => match k with
  | 0 => ("DiaryHouse$Rule", "from", "I", true)
  | 1 => ("DiaryHouse$Rule", "told", "I", true)
  | _ => ("DiaryHouse$Rule", "codes", "[I", true)
def tyX6 : Nat → FieldType := fun k => match k with
  | 0 => .int
  | 1 => .int
  | _ => .array .int
abbrev wsX60 : List Cond := u_ws RX6 TX6 3
theorem nmX6 : ∀ a, a < 3 → ∀ b, b < 3 → a ≠ b → (TX6 a).2.1 ≠ (TX6 b).2.1 := by decide +kernel
theorem tyX6_ok : ∀ k, k < 3 → parseFieldDescriptor (TX6 k).2.2.1 = some (tyX6 k) := by decide +kernel
abbrev cX6_init : ByteArray := prog_8_method_1_code
def yX6_init : MethodName := ⟨RX6, "<init>", "(II[I)V"⟩
abbrev cX6_worth : ByteArray := prog_8_method_2_code
def yX6_worth : MethodName := ⟨RX6, "worth", "(C[ILDiaryHouse$Numbers;)I"⟩
abbrev cX6_work : ByteArray := prog_8_method_3_code
def yX6_work : MethodName := ⟨RX6, "work", "(I[ILDiaryHouse$Numbers;)V"⟩
abbrev cX6_joined : ByteArray := prog_8_method_4_code
def yX6_joined : MethodName := ⟨RX6, "joined", "(CII)I"⟩
def RX7 : String := "DiaryHouse$Stop"
def TX7 : u_T := fun k => match k with
  | 0 => ("DiaryHouse$Stop", "person", "I", true)
  | 1 => ("DiaryHouse$Stop", "day", "I", true)
  | _ => ("DiaryHouse$Stop", "told", "I", true)
def tyX7 : Nat → FieldType := fun k => match k with
  | 0 => .int
  | 1 => .int
  | _ => .int
abbrev wsX70 : List Cond := u_ws RX7 TX7 3
theorem nmX7 : ∀ a, a < 3 → ∀ b, b < 3 → a ≠ b → (TX7 a).2.1 ≠ (TX7 b).2.1 := by decide +kernel
theorem tyX7_ok : ∀ k, k < 3 → parseFieldDescriptor (TX7 k).2.2.1 = some (tyX7 k) := by decide +kernel
abbrev cX7_init : ByteArray := prog_9_method_1_code
def yX7_init : MethodName := ⟨RX7, "<init>", "(III)V"⟩
def RX8 : String := "DiaryHouse$Table"
def TX8 : u_T := fun k => match k with
  | 0 => ("DiaryHouse$Table", "from", "[I", true)
  | 1 => ("DiaryHouse$Table", "to", "[I", true)
  | 2 => ("DiaryHouse$Table", "watchers", "I", false)
  | 3 => ("DiaryHouse$Table", "places", "[I", true)
  | 4 => ("DiaryHouse$Table", "hours", "[I", true)
  | 5 => ("DiaryHouse$Table", "wanted", "I", false)
  | 6 => ("DiaryHouse$Table", "tried", "[I", true)
  | 7 => ("DiaryHouse$Table", "best", "[I", true)
  | _ => ("DiaryHouse$Table", "seen", "I", false)
def tyX8 : Nat → FieldType := fun k => match k with
  | 0 => .array .int
  | 1 => .array .int
  | 2 => .int
  | 3 => .array .int
  | 4 => .array .int
  | 5 => .int
  | 6 => .array .int
  | 7 => .array .int
  | _ => .int
abbrev wsX80 : List Cond := u_ws RX8 TX8 9
theorem nmX8 : ∀ a, a < 9 → ∀ b, b < 9 → a ≠ b → (TX8 a).2.1 ≠ (TX8 b).2.1 := by decide +kernel
theorem tyX8_ok : ∀ k, k < 9 → parseFieldDescriptor (TX8 k).2.2.1 = some (tyX8 k) := by decide +kernel
abbrev cX8_init : ByteArray := prog_10_method_1_code
def yX8_init : MethodName := ⟨RX8, "<init>", "()V"⟩
abbrev cX8_watchers : ByteArray := prog_10_method_2_code
def yX8_watchers : MethodName := ⟨RX8, "watchers", "()I"⟩
abbrev cX8_wanted : ByteArray := prog_10_method_3_code
def yX8_wanted : MethodName := ⟨RX8, "wanted", "()I"⟩
abbrev cX8_seen : ByteArray := prog_10_method_4_code
def yX8_seen : MethodName := ⟨RX8, "seen", "()I"⟩
abbrev cX8_watcherOf : ByteArray := prog_10_method_5_code
def yX8_watcherOf : MethodName := ⟨RX8, "watcherOf", "(I)I"⟩
abbrev cX8_addWatcher : ByteArray := prog_10_method_6_code
def yX8_addWatcher : MethodName := ⟨RX8, "addWatcher", "(II)I"⟩
abbrev cX8_addWanted : ByteArray := prog_10_method_7_code
def yX8_addWanted : MethodName := ⟨RX8, "addWanted", "(II)I"⟩
abbrev cX8_planAnew : ByteArray := prog_10_method_8_code
def yX8_planAnew : MethodName := ⟨RX8, "planAnew", "()V"⟩
abbrev cX8_tryFrom : ByteArray := prog_10_method_9_code
def yX8_tryFrom : MethodName := ⟨RX8, "tryFrom", "(LDiaryHouse$Table;II)V"⟩
abbrev cX8_canSee : ByteArray := prog_10_method_10_code
def yX8_canSee : MethodName := ⟨RX8, "canSee", "(II)Z"⟩
abbrev cX8_canBothBeSeen : ByteArray := prog_10_method_11_code
def yX8_canBothBeSeen : MethodName := ⟨RX8, "canBothBeSeen", "(II)Z"⟩
def RX9 : String := "DiaryHouse$Tape"
def TX9 : u_T := fun k => match k with
  | 0 => ("DiaryHouse$Tape", "signs", "[C", true)
  | 1 => ("DiaryHouse$Tape", "size", "I", false)
  | 2 => ("DiaryHouse$Tape", "at", "I", false)
  | 3 => ("DiaryHouse$Tape", "codes", "[I", true)
  | _ => ("DiaryHouse$Tape", "codesSize", "I", false)
def tyX9 : Nat → FieldType := fun k => match k with
  | 0 => .array .char
  | 1 => .int
  | 2 => .int
  | 3 => .array .int
  | _ => .int
abbrev wsX90 : List Cond := u_ws RX9 TX9 5
theorem nmX9 : ∀ a, a < 5 → ∀ b, b < 5 → a ≠ b → (TX9 a).2.1 ≠ (TX9 b).2.1 := by decide +kernel
theorem tyX9_ok : ∀ k, k < 5 → parseFieldDescriptor (TX9 k).2.2.1 = some (tyX9 k) := by decide +kernel
abbrev cX9_init : ByteArray := prog_11_method_1_code
def yX9_init : MethodName := ⟨RX9, "<init>", "()V"⟩
abbrev cX9_length : ByteArray := prog_11_method_2_code
def yX9_length : MethodName := ⟨RX9, "length", "()I"⟩
abbrev cX9_append : ByteArray := prog_11_method_3_code
def yX9_append : MethodName := ⟨RX9, "append", "(I)V"⟩
abbrev cX9_cut : ByteArray := prog_11_method_4_code
def yX9_cut : MethodName := ⟨RX9, "cut", "(I)V"⟩
abbrev cX9_codesRead : ByteArray := prog_11_method_5_code
def yX9_codesRead : MethodName := ⟨RX9, "codesRead", "()[I"⟩
abbrev cX9_read : ByteArray := prog_11_method_6_code
def yX9_read : MethodName := ⟨RX9, "read", "()I"⟩
abbrev cX9_readClause : ByteArray := prog_11_method_7_code
def yX9_readClause : MethodName := ⟨RX9, "readClause", "()Z"⟩
abbrev cX9_readCondition : ByteArray := prog_11_method_8_code
def yX9_readCondition : MethodName := ⟨RX9, "readCondition", "(I)Z"⟩
abbrev cX9_readMoreParts : ByteArray := prog_11_method_9_code
def yX9_readMoreParts : MethodName := ⟨RX9, "readMoreParts", "(I)Z"⟩
abbrev cX9_readPart : ByteArray := prog_11_method_10_code
def yX9_readPart : MethodName := ⟨RX9, "readPart", "(I)Z"⟩
abbrev cX9_readMoreUnits : ByteArray := prog_11_method_11_code
def yX9_readMoreUnits : MethodName := ⟨RX9, "readMoreUnits", "(I)Z"⟩
abbrev cX9_readUnit : ByteArray := prog_11_method_12_code
def yX9_readUnit : MethodName := ⟨RX9, "readUnit", "(I)Z"⟩
abbrev cX9_readComparison : ByteArray := prog_11_method_13_code
def yX9_readComparison : MethodName := ⟨RX9, "readComparison", "(I)Z"⟩
abbrev cX9_readSum : ByteArray := prog_11_method_14_code
def yX9_readSum : MethodName := ⟨RX9, "readSum", "(I)Z"⟩
abbrev cX9_readTerm : ByteArray := prog_11_method_15_code
def yX9_readTerm : MethodName := ⟨RX9, "readTerm", "(I)Z"⟩
abbrev cX9_readAtom : ByteArray := prog_11_method_16_code
def yX9_readAtom : MethodName := ⟨RX9, "readAtom", "(I)Z"⟩
abbrev cX9_readNumber : ByteArray := prog_11_method_17_code
def yX9_readNumber : MethodName := ⟨RX9, "readNumber", "()Z"⟩
abbrev cX9_sees : ByteArray := prog_11_method_18_code
def yX9_sees : MethodName := ⟨RX9, "sees", "(Ljava/lang/String;)Z"⟩
abbrev cX9_take : ByteArray := prog_11_method_19_code
def yX9_take : MethodName := ⟨RX9, "take", "(Ljava/lang/String;)Z"⟩
abbrev cX9_takeSign : ByteArray := prog_11_method_20_code
def yX9_takeSign : MethodName := ⟨RX9, "takeSign", "()C"⟩
abbrev cX9_addCode : ByteArray := prog_11_method_21_code
def yX9_addCode : MethodName := ⟨RX9, "addCode", "(I)V"⟩
def RX10 : String := "DiaryHouse$Turn"
def TX10 : u_T := fun k => match k with
  | 0 => ("DiaryHouse$Turn", "days", "[I", true)
  | 1 => ("DiaryHouse$Turn", "moods", "[I", true)
  | _ => ("DiaryHouse$Turn", "size", "I", false)
def tyX10 : Nat → FieldType := fun k => match k with
  | 0 => .array .int
  | 1 => .array .int
  | _ => .int
abbrev wsX100 : List Cond := u_ws RX10 TX10 3
theorem nmX10 : ∀ a, a < 3 → ∀ b, b < 3 → a ≠ b → (TX10 a).2.1 ≠ (TX10 b).2.1 := by decide +kernel
theorem tyX10_ok : ∀ k, k < 3 → parseFieldDescriptor (TX10 k).2.2.1 = some (tyX10 k) := by decide +kernel
abbrev cX10_init : ByteArray := prog_12_method_1_code
def yX10_init : MethodName := ⟨RX10, "<init>", "()V"⟩
abbrev cX10_clear : ByteArray := prog_12_method_2_code
def yX10_clear : MethodName := ⟨RX10, "clear", "()V"⟩
abbrev cX10_add : ByteArray := prog_12_method_3_code
def yX10_add : MethodName := ⟨RX10, "add", "(II)V"⟩
abbrev cX10_split : ByteArray := prog_12_method_4_code
def yX10_split : MethodName := ⟨RX10, "split", "()I"⟩
abbrev cX10_dayAt : ByteArray := prog_12_method_5_code
def yX10_dayAt : MethodName := ⟨RX10, "dayAt", "(I)I"⟩
abbrev cX10_chanceAt : ByteArray := prog_12_method_6_code
def yX10_chanceAt : MethodName := ⟨RX10, "chanceAt", "(I)I"⟩
abbrev cX10_sumAhead : ByteArray := prog_12_method_7_code
def yX10_sumAhead : MethodName := ⟨RX10, "sumAhead", "(I)I"⟩
abbrev cX10_distance : ByteArray := prog_12_method_8_code
def yX10_distance : MethodName := ⟨RX10, "distance", "(III)J"⟩
def RX11 : String := "DiaryHouse"
def TX11 : u_T := fun k => match k with
  | 0 => ("DiaryHouse", "now", "I", false)
  | 1 => ("DiaryHouse", "persons", "Ljava/util/ArrayList;", true)
  | 2 => ("DiaryHouse", "lines", "Ljava/util/ArrayList;", true)
  | 3 => ("DiaryHouse", "stops", "Ljava/util/ArrayList;", true)
  | 4 => ("DiaryHouse", "rules", "Ljava/util/ArrayList;", true)
  | 5 => ("DiaryHouse", "happenings", "Ljava/util/ArrayList;", true)
  | 6 => ("DiaryHouse", "marks", "Ljava/util/ArrayList;", true)
  | 7 => ("DiaryHouse", "questions", "Ljava/util/ArrayList;", true)
  | 8 => ("DiaryHouse", "tape", "LDiaryHouse$Tape;", true)
  | 9 => ("DiaryHouse", "plan", "LDiaryHouse$Table;", true)
  | 10 => ("DiaryHouse", "turning", "LDiaryHouse$Turn;", true)
  | 11 => ("DiaryHouse", "people", "[[I", true)
  | 12 => ("DiaryHouse", "markRows", "[[I", true)
  | 13 => ("DiaryHouse", "letters", "[I", true)
  | 14 => ("DiaryHouse", "numbers", "LDiaryHouse$Numbers;", true)
  | 15 => ("DiaryHouse", "picks", "[I", true)
  | _ => ("DiaryHouse", "drawn", "[I", true)
def tyX11 : Nat → FieldType := fun k => match k with
  | 0 => .int
  | 1 => .object "java/util/ArrayList"
  | 2 => .object "java/util/ArrayList"
  | 3 => .object "java/util/ArrayList"
  | 4 => .object "java/util/ArrayList"
  | 5 => .object "java/util/ArrayList"
  | 6 => .object "java/util/ArrayList"
  | 7 => .object "java/util/ArrayList"
  | 8 => .object "DiaryHouse$Tape"
  | 9 => .object "DiaryHouse$Table"
  | 10 => .object "DiaryHouse$Turn"
  | 11 => .array (.array .int)
  | 12 => .array (.array .int)
  | 13 => .array .int
  | 14 => .object "DiaryHouse$Numbers"
  | 15 => .array .int
  | _ => .array .int
abbrev wsX110 : List Cond := u_ws RX11 TX11 17
theorem nmX11 : ∀ a, a < 17 → ∀ b, b < 17 → a ≠ b → (TX11 a).2.1 ≠ (TX11 b).2.1 := by decide +kernel
theorem tyX11_ok : ∀ k, k < 17 → parseFieldDescriptor (TX11 k).2.2.1 = some (tyX11 k) := by decide +kernel
abbrev cX11_init : ByteArray := prog_1_method_1_code
def yX11_init : MethodName := ⟨RX11, "<init>", "()V"⟩
abbrev cX11_days : ByteArray := prog_1_method_2_code
def yX11_days : MethodName := ⟨RX11, "days", "(I)I"⟩
abbrev cX11_person : ByteArray := prog_1_method_3_code
def yX11_person : MethodName := ⟨RX11, "person", "(III)I"⟩
abbrev cX11_line : ByteArray := prog_1_method_4_code
def yX11_line : MethodName := ⟨RX11, "line", "(IIIIII)I"⟩
abbrev cX11_isHearing : ByteArray := prog_1_method_5_code
def yX11_isHearing : MethodName := ⟨RX11, "isHearing", "(III)Z"⟩
abbrev cX11_told : ByteArray := prog_1_method_6_code
def yX11_told : MethodName := ⟨RX11, "told", "(II)I"⟩
abbrev cX11_stop : ByteArray := prog_1_method_7_code
def yX11_stop : MethodName := ⟨RX11, "stop", "(II)Z"⟩
abbrev cX11_stopped : ByteArray := prog_1_method_8_code
def yX11_stopped : MethodName := ⟨RX11, "stopped", "(II)I"⟩
abbrev cX11_stopDayOf : ByteArray := prog_1_method_9_code
def yX11_stopDayOf : MethodName := ⟨RX11, "stopDayOf", "(II)I"⟩
abbrev cX11_hasStoppedBy : ByteArray := prog_1_method_10_code
def yX11_hasStoppedBy : MethodName := ⟨RX11, "hasStoppedBy", "(III)Z"⟩
abbrev cX11_feed : ByteArray := prog_1_method_11_code
def yX11_feed : MethodName := ⟨RX11, "feed", "(IIIII)I"⟩
abbrev cX11_bytesIn : ByteArray := prog_1_method_12_code
def yX11_bytesIn : MethodName := ⟨RX11, "bytesIn", "(I)I"⟩
abbrev cX11_end : ByteArray := prog_1_method_13_code
def yX11_end : MethodName := ⟨RX11, "end", "(I)Z"⟩
abbrev cX11_fault : ByteArray := prog_1_method_14_code
def yX11_fault : MethodName := ⟨RX11, "fault", "()I"⟩
abbrev cX11_rule : ByteArray := prog_1_method_15_code
def yX11_rule : MethodName := ⟨RX11, "rule", "(I)I"⟩
abbrev cX11_force : ByteArray := prog_1_method_16_code
def yX11_force : MethodName := ⟨RX11, "force", "(II)I"⟩
abbrev cX11_ruleInForce : ByteArray := prog_1_method_17_code
def yX11_ruleInForce : MethodName := ⟨RX11, "ruleInForce", "(II)I"⟩
abbrev cX11_worthOf : ByteArray := prog_1_method_18_code
def yX11_worthOf : MethodName := ⟨RX11, "worthOf", "(CI)I"⟩
abbrev cX11_asked : ByteArray := prog_1_method_19_code
def yX11_asked : MethodName := ⟨RX11, "asked", "(IIII)I"⟩
abbrev cX11_setPersonLetters : ByteArray := prog_1_method_20_code
def yX11_setPersonLetters : MethodName := ⟨RX11, "setPersonLetters", "(LDiaryHouse$Person;)V"⟩
abbrev cX11_shown : ByteArray := prog_1_method_21_code
def yX11_shown : MethodName := ⟨RX11, "shown", "(IIII)I"⟩
abbrev cX11_mayBeShown : ByteArray := prog_1_method_22_code
def yX11_mayBeShown : MethodName := ⟨RX11, "mayBeShown", "(LDiaryHouse$Line;III)Z"⟩
abbrev cX11_digest : ByteArray := prog_1_method_23_code
def yX11_digest : MethodName := ⟨RX11, "digest", "(IIIII)I"⟩
abbrev cX11_left : ByteArray := prog_1_method_24_code
def yX11_left : MethodName := ⟨RX11, "left", "(IIII)I"⟩
abbrev cX11_isDigest : ByteArray := prog_1_method_25_code
def yX11_isDigest : MethodName := ⟨RX11, "isDigest", "(IIII)Z"⟩
abbrev cX11_linesFor : ByteArray := prog_1_method_26_code
def yX11_linesFor : MethodName := ⟨RX11, "linesFor", "(II)I"⟩
abbrev cX11_pickDigest : ByteArray := prog_1_method_27_code
def yX11_pickDigest : MethodName := ⟨RX11, "pickDigest", "(IIII)I"⟩
abbrev cX11_digestSize : ByteArray := prog_1_method_28_code
def yX11_digestSize : MethodName := ⟨RX11, "digestSize", "(III)I"⟩
abbrev cX11_insertPick : ByteArray := prog_1_method_29_code
def yX11_insertPick : MethodName := ⟨RX11, "insertPick", "(III)I"⟩
abbrev cX11_strengthOf : ByteArray := prog_1_method_30_code
def yX11_strengthOf : MethodName := ⟨RX11, "strengthOf", "(I)I"⟩
abbrev cX11_happen : ByteArray := prog_1_method_31_code
def yX11_happen : MethodName := ⟨RX11, "happen", "(IIIZ)Z"⟩
abbrev cX11_truth : ByteArray := prog_1_method_32_code
def yX11_truth : MethodName := ⟨RX11, "truth", "(II)I"⟩
abbrev cX11_way : ByteArray := prog_1_method_33_code
def yX11_way : MethodName := ⟨RX11, "way", "(IIII)I"⟩
abbrev cX11_wayPart : ByteArray := prog_1_method_34_code
def yX11_wayPart : MethodName := ⟨RX11, "wayPart", "(IIII)I"⟩
abbrev cX11_wordOf : ByteArray := prog_1_method_35_code
def yX11_wordOf : MethodName := ⟨RX11, "wordOf", "(III)LDiaryHouse$Line;"⟩
abbrev cX11_bearers : ByteArray := prog_1_method_36_code
def yX11_bearers : MethodName := ⟨RX11, "bearers", "(II)I"⟩
abbrev cX11_mark : ByteArray := prog_1_method_37_code
def yX11_mark : MethodName := ⟨RX11, "mark", "(III)Z"⟩
abbrev cX11_marked : ByteArray := prog_1_method_38_code
def yX11_marked : MethodName := ⟨RX11, "marked", "(III)I"⟩
abbrev cX11_layMarks : ByteArray := prog_1_method_39_code
def yX11_layMarks : MethodName := ⟨RX11, "layMarks", "(I)V"⟩
abbrev cX11_agree : ByteArray := prog_1_method_40_code
def yX11_agree : MethodName := ⟨RX11, "agree", "(IIII)I"⟩
abbrev cX11_habit : ByteArray := prog_1_method_41_code
def yX11_habit : MethodName := ⟨RX11, "habit", "(II)I"⟩
abbrev cX11_held : ByteArray := prog_1_method_42_code
def yX11_held : MethodName := ⟨RX11, "held", "(II)I"⟩
abbrev cX11_readersGiving : ByteArray := prog_1_method_43_code
def yX11_readersGiving : MethodName := ⟨RX11, "readersGiving", "(II)I"⟩
abbrev cX11_land : ByteArray := prog_1_method_44_code
def yX11_land : MethodName := ⟨RX11, "land", "(III)Z"⟩
abbrev cX11_allPeople : ByteArray := prog_1_method_45_code
def yX11_allPeople : MethodName := ⟨RX11, "allPeople", "()I"⟩
abbrev cX11_span : ByteArray := prog_1_method_46_code
def yX11_span : MethodName := ⟨RX11, "span", "(IIII)I"⟩
abbrev cX11_meanMood : ByteArray := prog_1_method_47_code
def yX11_meanMood : MethodName := ⟨RX11, "meanMood", "(IIIII)I"⟩
abbrev cX11_share : ByteArray := prog_1_method_48_code
def yX11_share : MethodName := ⟨RX11, "share", "(III)I"⟩
abbrev cX11_mood : ByteArray := prog_1_method_49_code
def yX11_mood : MethodName := ⟨RX11, "mood", "(III)I"⟩
abbrev cX11_turn : ByteArray := prog_1_method_50_code
def yX11_turn : MethodName := ⟨RX11, "turn", "(IIII)I"⟩
abbrev cX11_last : ByteArray := prog_1_method_51_code
def yX11_last : MethodName := ⟨RX11, "last", "(II)I"⟩
abbrev cX11_lastOf : ByteArray := prog_1_method_52_code
def yX11_lastOf : MethodName := ⟨RX11, "lastOf", "(II)I"⟩
abbrev cX11_lean : ByteArray := prog_1_method_53_code
def yX11_lean : MethodName := ⟨RX11, "lean", "(II)I"⟩
abbrev cX11_watcher : ByteArray := prog_1_method_54_code
def yX11_watcher : MethodName := ⟨RX11, "watcher", "(II)I"⟩
abbrev cX11_want : ByteArray := prog_1_method_55_code
def yX11_want : MethodName := ⟨RX11, "want", "(II)I"⟩
abbrev cX11_table : ByteArray := prog_1_method_56_code
def yX11_table : MethodName := ⟨RX11, "table", "(I)I"⟩
abbrev cX11_alike : ByteArray := prog_1_method_57_code
def yX11_alike : MethodName := ⟨RX11, "alike", "(II)I"⟩
abbrev cX11_alikeTo : ByteArray := prog_1_method_58_code
def yX11_alikeTo : MethodName := ⟨RX11, "alikeTo", "(LDiaryHouse$Person;I)I"⟩
abbrev cX11_hide : ByteArray := prog_1_method_59_code
def yX11_hide : MethodName := ⟨RX11, "hide", "(I)I"⟩
abbrev cX11_allHaveAlike : ByteArray := prog_1_method_60_code
def yX11_allHaveAlike : MethodName := ⟨RX11, "allHaveAlike", "(II)Z"⟩
abbrev cX11_question : ByteArray := prog_1_method_61_code
def yX11_question : MethodName := ⟨RX11, "question", "(II)I"⟩
abbrev cX11_buy : ByteArray := prog_1_method_62_code
def yX11_buy : MethodName := ⟨RX11, "buy", "(I)I"⟩
abbrev cX11_hasTheFirstUnlike : ByteArray := prog_1_method_63_code
def yX11_hasTheFirstUnlike : MethodName := ⟨RX11, "hasTheFirstUnlike", "(II)Z"⟩
abbrev cX11_priceOf : ByteArray := prog_1_method_64_code
def yX11_priceOf : MethodName := ⟨RX11, "priceOf", "(I)I"⟩
abbrev cX11_sortsOf : ByteArray := prog_1_method_65_code
def yX11_sortsOf : MethodName := ⟨RX11, "sortsOf", "(I)I"⟩
abbrev cX11_judge : ByteArray := prog_1_method_66_code
def yX11_judge : MethodName := ⟨RX11, "judge", "(II)I"⟩
abbrev cX11_lot : ByteArray := prog_1_method_67_code
def yX11_lot : MethodName := ⟨RX11, "lot", "(IJI)I"⟩
abbrev cX11_draw : ByteArray := prog_1_method_68_code
def yX11_draw : MethodName := ⟨RX11, "draw", "(IJ)V"⟩
abbrev cX11_beside : ByteArray := prog_1_method_69_code
def yX11_beside : MethodName := ⟨RX11, "beside", "(IJI)I"⟩
abbrev cX11_isDrawn : ByteArray := prog_1_method_70_code
def yX11_isDrawn : MethodName := ⟨RX11, "isDrawn", "(II)Z"⟩
abbrev cX11_count : ByteArray := prog_1_method_71_code
def yX11_count : MethodName := ⟨RX11, "count", "(I)I"⟩
abbrev cX11_personsGone : ByteArray := prog_1_method_72_code
def yX11_personsGone : MethodName := ⟨RX11, "personsGone", "()I"⟩
abbrev cX11_isWithin : ByteArray := prog_1_method_73_code
def yX11_isWithin : MethodName := ⟨RX11, "isWithin", "(III)Z"⟩
abbrev cX11_isDay : ByteArray := prog_1_method_74_code
def yX11_isDay : MethodName := ⟨RX11, "isDay", "(I)Z"⟩
abbrev cX11_isKnownDay : ByteArray := prog_1_method_75_code
def yX11_isKnownDay : MethodName := ⟨RX11, "isKnownDay", "(I)Z"⟩
abbrev cX11_isPerson : ByteArray := prog_1_method_76_code
def yX11_isPerson : MethodName := ⟨RX11, "isPerson", "(I)Z"⟩
abbrev cX11_isLine : ByteArray := prog_1_method_77_code
def yX11_isLine : MethodName := ⟨RX11, "isLine", "(I)Z"⟩
abbrev cX11_isLineKnown : ByteArray := prog_1_method_78_code
def yX11_isLineKnown : MethodName := ⟨RX11, "isLineKnown", "(II)Z"⟩
abbrev cX11_isPlace : ByteArray := prog_1_method_79_code
def yX11_isPlace : MethodName := ⟨RX11, "isPlace", "(I)Z"⟩
abbrev cX11_isSort : ByteArray := prog_1_method_80_code
def yX11_isSort : MethodName := ⟨RX11, "isSort", "(I)Z"⟩
abbrev cX11_isSaying : ByteArray := prog_1_method_81_code
def yX11_isSaying : MethodName := ⟨RX11, "isSaying", "(I)Z"⟩
abbrev cX11_isRank : ByteArray := prog_1_method_82_code
def yX11_isRank : MethodName := ⟨RX11, "isRank", "(I)Z"⟩
abbrev cX11_isReader : ByteArray := prog_1_method_83_code
def yX11_isReader : MethodName := ⟨RX11, "isReader", "(I)Z"⟩
abbrev cX11_isHour : ByteArray := prog_1_method_84_code
def yX11_isHour : MethodName := ⟨RX11, "isHour", "(I)Z"⟩
abbrev cX11_isCoin : ByteArray := prog_1_method_85_code
def yX11_isCoin : MethodName := ⟨RX11, "isCoin", "(I)Z"⟩
abbrev cX11_isLotSize : ByteArray := prog_1_method_86_code
def yX11_isLotSize : MethodName := ⟨RX11, "isLotSize", "(I)Z"⟩
def RX12 : String := "DiaryHouseModel"
def TX12 : u_T := fun k => match k with
  | 0 => ("DiaryHouseModel", "thrown", "I", false)
  | 1 => ("DiaryHouseModel", "now", "I", false)
  | 2 => ("DiaryHouseModel", "place", "[I", true)
  | 3 => ("DiaryHouseModel", "age", "[I", true)
  | 4 => ("DiaryHouseModel", "work", "[I", true)
  | 5 => ("DiaryHouseModel", "stopOf", "[I", true)
  | 6 => ("DiaryHouseModel", "stopDay", "[I", true)
  | 7 => ("DiaryHouseModel", "stopTold", "[I", true)
  | 8 => ("DiaryHouseModel", "lineOf", "[I", true)
  | 9 => ("DiaryHouseModel", "lineDay", "[I", true)
  | 10 => ("DiaryHouseModel", "lineSort", "[I", true)
  | 11 => ("DiaryHouseModel", "lineMood", "[I", true)
  | 12 => ("DiaryHouseModel", "lineSaying", "[I", true)
  | 13 => ("DiaryHouseModel", "lineFrom", "[I", true)
  | 14 => ("DiaryHouseModel", "lineTold", "[I", true)
  | 15 => ("DiaryHouseModel", "persons", "I", false)
  | 16 => ("DiaryHouseModel", "lines", "I", false)
  | 17 => ("DiaryHouseModel", "stops", "I", false)
  | 18 => ("DiaryHouseModel", "tape", "[B", true)
  | 19 => ("DiaryHouseModel", "ruleText", "[B", true)
  | 20 => ("DiaryHouseModel", "ruleLong", "[I", true)
  | 21 => ("DiaryHouseModel", "ruleFrom", "[I", true)
  | 22 => ("DiaryHouseModel", "ruleTold", "[I", true)
  | 23 => ("DiaryHouseModel", "letters", "[I", true)
  | 24 => ("DiaryHouseModel", "length", "I", false)
  | 25 => ("DiaryHouseModel", "rules", "I", false)
  | 26 => ("DiaryHouseModel", "text", "[B", false)
  | 27 => ("DiaryHouseModel", "begins", "I", false)
  | 28 => ("DiaryHouseModel", "ends", "I", false)
  | 29 => ("DiaryHouseModel", "at", "I", false)
  | 30 => ("DiaryHouseModel", "fault", "I", false)
  | 31 => ("DiaryHouseModel", "deep", "I", false)
  | 32 => ("DiaryHouseModel", "label", "I", false)
  | 33 => ("DiaryHouseModel", "found", "I", false)
  | 34 => ("DiaryHouseModel", "hasFound", "Z", false)
  | 35 => ("DiaryHouseModel", "chosen", "[I", true)
  | 36 => ("DiaryHouseModel", "chosenMany", "I", false)
  | 37 => ("DiaryHouseModel", "dayMany", "I", false)
  | 38 => ("DiaryHouseModel", "happenPlace", "[I", true)
  | 39 => ("DiaryHouseModel", "happenDay", "[I", true)
  | 40 => ("DiaryHouseModel", "happenSort", "[I", true)
  | 41 => ("DiaryHouseModel", "happenTold", "[I", true)
  | 42 => ("DiaryHouseModel", "happened", "[Z", true)
  | 43 => ("DiaryHouseModel", "seen", "[Z", true)
  | 44 => ("DiaryHouseModel", "happenings", "I", false)
  | 45 => ("DiaryHouseModel", "markReader", "[I", true)
  | 46 => ("DiaryHouseModel", "markLine", "[I", true)
  | 47 => ("DiaryHouseModel", "markIs", "[I", true)
  | 48 => ("DiaryHouseModel", "markTold", "[I", true)
  | 49 => ("DiaryHouseModel", "marks", "I", false)
  | 50 => ("DiaryHouseModel", "land", "[I", true)
  | 51 => ("DiaryHouseModel", "moods", "[I", true)
  | 52 => ("DiaryHouseModel", "moodMany", "I", false)
  | 53 => ("DiaryHouseModel", "watchFrom", "[I", true)
  | 54 => ("DiaryHouseModel", "watchTo", "[I", true)
  | 55 => ("DiaryHouseModel", "wantPlace", "[I", true)
  | 56 => ("DiaryHouseModel", "wantHour", "[I", true)
  | 57 => ("DiaryHouseModel", "tried", "[I", true)
  | 58 => ("DiaryHouseModel", "bestTable", "[I", true)
  | 59 => ("DiaryHouseModel", "watchers", "I", false)
  | 60 => ("DiaryHouseModel", "wanted", "I", false)
  | 61 => ("DiaryHouseModel", "bestSeen", "I", false)
  | 62 => ("DiaryHouseModel", "price", "[I", true)
  | 63 => ("DiaryHouseModel", "tells", "[I", true)
  | 64 => ("DiaryHouseModel", "drawn", "[I", true)
  | _ => ("DiaryHouseModel", "questions", "I", false)
def tyX12 : Nat → FieldType := fun k => match k with
  | 0 => .int
  | 1 => .int
  | 2 => .array .int
  | 3 => .array .int
  | 4 => .array .int
  | 5 => .array .int
  | 6 => .array .int
  | 7 => .array .int
  | 8 => .array .int
  | 9 => .array .int
  | 10 => .array .int
  | 11 => .array .int
  | 12 => .array .int
  | 13 => .array .int
  | 14 => .array .int
  | 15 => .int
  | 16 => .int
  | 17 => .int
  | 18 => .array .byte
  | 19 => .array .byte
  | 20 => .array .int
  | 21 => .array .int
  | 22 => .array .int
  | 23 => .array .int
  | 24 => .int
  | 25 => .int
  | 26 => .array .byte
  | 27 => .int
  | 28 => .int
  | 29 => .int
  | 30 => .int
  | 31 => .int
  | 32 => .int
  | 33 => .int
  | 34 => .boolean
  | 35 => .array .int
  | 36 => .int
  | 37 => .int
  | 38 => .array .int
  | 39 => .array .int
  | 40 => .array .int
  | 41 => .array .int
  | 42 => .array .boolean
  | 43 => .array .boolean
  | 44 => .int
  | 45 => .array .int
  | 46 => .array .int
  | 47 => .array .int
  | 48 => .array .int
  | 49 => .int
  | 50 => .array .int
  | 51 => .array .int
  | 52 => .int
  | 53 => .array .int
  | 54 => .array .int
  | 55 => .array .int
  | 56 => .array .int
  | 57 => .array .int
  | 58 => .array .int
  | 59 => .int
  | 60 => .int
  | 61 => .int
  | 62 => .array .int
  | 63 => .array .int
  | 64 => .array .int
  | _ => .int
abbrev wsX120 : List Cond := u_ws RX12 TX12 66
theorem nmX12 : ∀ a, a < 66 → ∀ b, b < 66 → a ≠ b → (TX12 a).2.1 ≠ (TX12 b).2.1 := by decide +kernel
theorem tyX12_ok : ∀ k, k < 66 → parseFieldDescriptor (TX12 k).2.2.1 = some (tyX12 k) := by decide +kernel
abbrev cX12_init : ByteArray := prog_14_method_1_code
def yX12_init : MethodName := ⟨RX12, "<init>", "()V"⟩
abbrev cX12_thrown : ByteArray := prog_14_method_2_code
def yX12_thrown : MethodName := ⟨RX12, "thrown", "()I"⟩
abbrev cX12_isIn : ByteArray := prog_14_method_3_code
def yX12_isIn : MethodName := ⟨RX12, "isIn", "(III)Z"⟩
abbrev cX12_isKnown : ByteArray := prog_14_method_4_code
def yX12_isKnown : MethodName := ⟨RX12, "isKnown", "(I)Z"⟩
abbrev cX12_isDay : ByteArray := prog_14_method_5_code
def yX12_isDay : MethodName := ⟨RX12, "isDay", "(I)Z"⟩
abbrev cX12_isSort : ByteArray := prog_14_method_6_code
def yX12_isSort : MethodName := ⟨RX12, "isSort", "(I)Z"⟩
abbrev cX12_days : ByteArray := prog_14_method_7_code
def yX12_days : MethodName := ⟨RX12, "days", "(I)I"⟩
abbrev cX12_isPerson : ByteArray := prog_14_method_8_code
def yX12_isPerson : MethodName := ⟨RX12, "isPerson", "(I)Z"⟩
abbrev cX12_isLine : ByteArray := prog_14_method_9_code
def yX12_isLine : MethodName := ⟨RX12, "isLine", "(I)Z"⟩
abbrev cX12_isLineBy : ByteArray := prog_14_method_10_code
def yX12_isLineBy : MethodName := ⟨RX12, "isLineBy", "(II)Z"⟩
abbrev cX12_person : ByteArray := prog_14_method_11_code
def yX12_person : MethodName := ⟨RX12, "person", "(III)I"⟩
abbrev cX12_stratum : ByteArray := prog_14_method_12_code
def yX12_stratum : MethodName := ⟨RX12, "stratum", "(I)I"⟩
abbrev cX12_stopsFrom : ByteArray := prog_14_method_13_code
def yX12_stopsFrom : MethodName := ⟨RX12, "stopsFrom", "(II)I"⟩
abbrev cX12_line : ByteArray := prog_14_method_14_code
def yX12_line : MethodName := ⟨RX12, "line", "(IIIIII)I"⟩
abbrev cX12_told : ByteArray := prog_14_method_15_code
def yX12_told : MethodName := ⟨RX12, "told", "(II)I"⟩
abbrev cX12_stop : ByteArray := prog_14_method_16_code
def yX12_stop : MethodName := ⟨RX12, "stop", "(II)Z"⟩
abbrev cX12_stopped : ByteArray := prog_14_method_17_code
def yX12_stopped : MethodName := ⟨RX12, "stopped", "(II)I"⟩
abbrev cX12_bytesIn : ByteArray := prog_14_method_18_code
def yX12_bytesIn : MethodName := ⟨RX12, "bytesIn", "(I)I"⟩
abbrev cX12_put : ByteArray := prog_14_method_19_code
def yX12_put : MethodName := ⟨RX12, "put", "(I)V"⟩
abbrev cX12_feed : ByteArray := prog_14_method_20_code
def yX12_feed : MethodName := ⟨RX12, "feed", "(IIIII)I"⟩
abbrev cX12_end : ByteArray := prog_14_method_21_code
def yX12_end : MethodName := ⟨RX12, "end", "(I)Z"⟩
abbrev cX12_look : ByteArray := prog_14_method_22_code
def yX12_look : MethodName := ⟨RX12, "look", "()I"⟩
abbrev cX12_fails : ByteArray := prog_14_method_23_code
def yX12_fails : MethodName := ⟨RX12, "fails", "()Z"⟩
abbrev cX12_goesIn : ByteArray := prog_14_method_24_code
def yX12_goesIn : MethodName := ⟨RX12, "goesIn", "()Z"⟩
abbrev cX12_takes : ByteArray := prog_14_method_25_code
def yX12_takes : MethodName := ⟨RX12, "takes", "(I)Z"⟩
abbrev cX12_isDigit : ByteArray := prog_14_method_26_code
def yX12_isDigit : MethodName := ⟨RX12, "isDigit", "()Z"⟩
abbrev cX12_bound : ByteArray := prog_14_method_27_code
def yX12_bound : MethodName := ⟨RX12, "bound", "(J)I"⟩
abbrev cX12_atom : ByteArray := prog_14_method_28_code
def yX12_atom : MethodName := ⟨RX12, "atom", "()I"⟩
abbrev cX12_term : ByteArray := prog_14_method_29_code
def yX12_term : MethodName := ⟨RX12, "term", "()I"⟩
abbrev cX12_sum : ByteArray := prog_14_method_30_code
def yX12_sum : MethodName := ⟨RX12, "sum", "()I"⟩
abbrev cX12_isSign : ByteArray := prog_14_method_31_code
def yX12_isSign : MethodName := ⟨RX12, "isSign", "(I)Z"⟩
abbrev cX12_compares : ByteArray := prog_14_method_32_code
def yX12_compares : MethodName := ⟨RX12, "compares", "(ZI)Z"⟩
abbrev cX12_unit : ByteArray := prog_14_method_33_code
def yX12_unit : MethodName := ⟨RX12, "unit", "()Z"⟩
abbrev cX12_part : ByteArray := prog_14_method_34_code
def yX12_part : MethodName := ⟨RX12, "part", "(ZI)Z"⟩
abbrev cX12_condition : ByteArray := prog_14_method_35_code
def yX12_condition : MethodName := ⟨RX12, "condition", "(ZI)Z"⟩
abbrev cX12_clause : ByteArray := prog_14_method_36_code
def yX12_clause : MethodName := ⟨RX12, "clause", "()V"⟩
abbrev cX12_goThrough : ByteArray := prog_14_method_37_code
def yX12_goThrough : MethodName := ⟨RX12, "goThrough", "([BIII)V"⟩
abbrev cX12_fault : ByteArray := prog_14_method_38_code
def yX12_fault : MethodName := ⟨RX12, "fault", "()I"⟩
abbrev cX12_rule : ByteArray := prog_14_method_39_code
def yX12_rule : MethodName := ⟨RX12, "rule", "(I)I"⟩
abbrev cX12_ruleOn : ByteArray := prog_14_method_40_code
def yX12_ruleOn : MethodName := ⟨RX12, "ruleOn", "(II)I"⟩
abbrev cX12_force : ByteArray := prog_14_method_41_code
def yX12_force : MethodName := ⟨RX12, "force", "(II)I"⟩
abbrev cX12_worth : ByteArray := prog_14_method_42_code
def yX12_worth : MethodName := ⟨RX12, "worth", "(III)I"⟩
abbrev cX12_noLetters : ByteArray := prog_14_method_43_code
def yX12_noLetters : MethodName := ⟨RX12, "noLetters", "()V"⟩
abbrev cX12_letPerson : ByteArray := prog_14_method_44_code
def yX12_letPerson : MethodName := ⟨RX12, "letPerson", "(I)V"⟩
abbrev cX12_asked : ByteArray := prog_14_method_45_code
def yX12_asked : MethodName := ⟨RX12, "asked", "(IIII)I"⟩
abbrev cX12_mayShow : ByteArray := prog_14_method_46_code
def yX12_mayShow : MethodName := ⟨RX12, "mayShow", "(IIII)Z"⟩
abbrev cX12_shown : ByteArray := prog_14_method_47_code
def yX12_shown : MethodName := ⟨RX12, "shown", "(IIII)I"⟩
abbrev cX12_digests : ByteArray := prog_14_method_48_code
def yX12_digests : MethodName := ⟨RX12, "digests", "(IIII)Z"⟩
abbrev cX12_digest : ByteArray := prog_14_method_49_code
def yX12_digest : MethodName := ⟨RX12, "digest", "(IIIII)I"⟩
abbrev cX12_left : ByteArray := prog_14_method_50_code
def yX12_left : MethodName := ⟨RX12, "left", "(IIII)I"⟩
abbrev cX12_happen : ByteArray := prog_14_method_51_code
def yX12_happen : MethodName := ⟨RX12, "happen", "(IIIZ)Z"⟩
abbrev cX12_truth : ByteArray := prog_14_method_52_code
def yX12_truth : MethodName := ⟨RX12, "truth", "(II)I"⟩
abbrev cX12_wordOf : ByteArray := prog_14_method_53_code
def yX12_wordOf : MethodName := ⟨RX12, "wordOf", "(III)I"⟩
abbrev cX12_way : ByteArray := prog_14_method_54_code
def yX12_way : MethodName := ⟨RX12, "way", "(IIII)I"⟩
abbrev cX12_bearers : ByteArray := prog_14_method_55_code
def yX12_bearers : MethodName := ⟨RX12, "bearers", "(II)I"⟩
abbrev cX12_isReader : ByteArray := prog_14_method_56_code
def yX12_isReader : MethodName := ⟨RX12, "isReader", "(I)Z"⟩
abbrev cX12_mark : ByteArray := prog_14_method_57_code
def yX12_mark : MethodName := ⟨RX12, "mark", "(III)Z"⟩
abbrev cX12_markOf : ByteArray := prog_14_method_58_code
def yX12_markOf : MethodName := ⟨RX12, "markOf", "(III)I"⟩
abbrev cX12_marked : ByteArray := prog_14_method_59_code
def yX12_marked : MethodName := ⟨RX12, "marked", "(III)I"⟩
abbrev cX12_agree : ByteArray := prog_14_method_60_code
def yX12_agree : MethodName := ⟨RX12, "agree", "(IIII)I"⟩
abbrev cX12_habit : ByteArray := prog_14_method_61_code
def yX12_habit : MethodName := ⟨RX12, "habit", "(II)I"⟩
abbrev cX12_held : ByteArray := prog_14_method_62_code
def yX12_held : MethodName := ⟨RX12, "held", "(II)I"⟩
abbrev cX12_land : ByteArray := prog_14_method_63_code
def yX12_land : MethodName := ⟨RX12, "land", "(III)Z"⟩
abbrev cX12_people : ByteArray := prog_14_method_64_code
def yX12_people : MethodName := ⟨RX12, "people", "()I"⟩
abbrev cX12_span : ByteArray := prog_14_method_65_code
def yX12_span : MethodName := ⟨RX12, "span", "(IIII)I"⟩
abbrev cX12_mood : ByteArray := prog_14_method_66_code
def yX12_mood : MethodName := ⟨RX12, "mood", "(III)I"⟩
abbrev cX12_apart : ByteArray := prog_14_method_67_code
def yX12_apart : MethodName := ⟨RX12, "apart", "(II)J"⟩
abbrev cX12_turn : ByteArray := prog_14_method_68_code
def yX12_turn : MethodName := ⟨RX12, "turn", "(IIII)I"⟩
abbrev cX12_lastOf : ByteArray := prog_14_method_69_code
def yX12_lastOf : MethodName := ⟨RX12, "lastOf", "(II)I"⟩
abbrev cX12_last : ByteArray := prog_14_method_70_code
def yX12_last : MethodName := ⟨RX12, "last", "(II)I"⟩
abbrev cX12_isStopped : ByteArray := prog_14_method_71_code
def yX12_isStopped : MethodName := ⟨RX12, "isStopped", "(II)Z"⟩
abbrev cX12_lean : ByteArray := prog_14_method_72_code
def yX12_lean : MethodName := ⟨RX12, "lean", "(II)I"⟩
abbrev cX12_watcher : ByteArray := prog_14_method_73_code
def yX12_watcher : MethodName := ⟨RX12, "watcher", "(II)I"⟩
abbrev cX12_want : ByteArray := prog_14_method_74_code
def yX12_want : MethodName := ⟨RX12, "want", "(II)I"⟩
abbrev cX12_maySee : ByteArray := prog_14_method_75_code
def yX12_maySee : MethodName := ⟨RX12, "maySee", "(II)Z"⟩
abbrev cX12_tryTable : ByteArray := prog_14_method_76_code
def yX12_tryTable : MethodName := ⟨RX12, "tryTable", "(II)V"⟩
abbrev cX12_table : ByteArray := prog_14_method_77_code
def yX12_table : MethodName := ⟨RX12, "table", "(I)I"⟩
abbrev cX12_alikeOf : ByteArray := prog_14_method_78_code
def yX12_alikeOf : MethodName := ⟨RX12, "alikeOf", "(II)I"⟩
abbrev cX12_alike : ByteArray := prog_14_method_79_code
def yX12_alike : MethodName := ⟨RX12, "alike", "(II)I"⟩
abbrev cX12_hide : ByteArray := prog_14_method_80_code
def yX12_hide : MethodName := ⟨RX12, "hide", "(I)I"⟩
abbrev cX12_question : ByteArray := prog_14_method_81_code
def yX12_question : MethodName := ⟨RX12, "question", "(II)I"⟩
abbrev cX12_priceOf : ByteArray := prog_14_method_82_code
def yX12_priceOf : MethodName := ⟨RX12, "priceOf", "(I)I"⟩
abbrev cX12_sortsOf : ByteArray := prog_14_method_83_code
def yX12_sortsOf : MethodName := ⟨RX12, "sortsOf", "(I)I"⟩
abbrev cX12_buy : ByteArray := prog_14_method_84_code
def yX12_buy : MethodName := ⟨RX12, "buy", "(I)I"⟩
abbrev cX12_judge : ByteArray := prog_14_method_85_code
def yX12_judge : MethodName := ⟨RX12, "judge", "(II)I"⟩
abbrev cX12_draws : ByteArray := prog_14_method_86_code
def yX12_draws : MethodName := ⟨RX12, "draws", "(IJ)Z"⟩
abbrev cX12_lot : ByteArray := prog_14_method_87_code
def yX12_lot : MethodName := ⟨RX12, "lot", "(IJI)I"⟩
abbrev cX12_beside : ByteArray := prog_14_method_88_code
def yX12_beside : MethodName := ⟨RX12, "beside", "(IJI)I"⟩
abbrev cX12_count : ByteArray := prog_14_method_89_code
def yX12_count : MethodName := ⟨RX12, "count", "(I)I"⟩
def RJx145de : String := "java/io/Serializable"
def TJx145de : u_T := fun k => match k with
  | _ => ("", "", "", false)
def tyJx145de : Nat → FieldType := fun k => match k with
  | _ => .int
abbrev wsJx145de0 : List Cond := u_ws RJx145de TJx145de 0
theorem nmJx145de : ∀ a, a < 0 → ∀ b, b < 0 → a ≠ b → (TJx145de a).2.1 ≠ (TJx145de b).2.1 := by decide +kernel
theorem tyJx145de_ok : ∀ k, k < 0 → parseFieldDescriptor (TJx145de k).2.2.1 = some (tyJx145de k) := by decide +kernel
def RJx9f9b0 : String := "java/lang/CharSequence"
def TJx9f9b0 : u_T := fun k => match k with
  | _ => ("", "", "", false)
def tyJx9f9b0 : Nat → FieldType := fun k => match k with
  | _ => .int
abbrev wsJx9f9b00 : List Cond := u_ws RJx9f9b0 TJx9f9b0 0
theorem nmJx9f9b0 : ∀ a, a < 0 → ∀ b, b < 0 → a ≠ b → (TJx9f9b0 a).2.1 ≠ (TJx9f9b0 b).2.1 := by decide +kernel
theorem tyJx9f9b0_ok : ∀ k, k < 0 → parseFieldDescriptor (TJx9f9b0 k).2.2.1 = some (tyJx9f9b0 k) := by decide +kernel
def RJ11 : String := "java/lang/Character"
def TJ11 : u_T := fun k => match k with
  | _ => ("", "", "", false)
def tyJ11 : Nat → FieldType := fun k => match k with
  | _ => .int
abbrev wsJ110 : List Cond := u_ws RJ11 TJ11 0
theorem nmJ11 : ∀ a, a < 0 → ∀ b, b < 0 → a ≠ b → (TJ11 a).2.1 ≠ (TJ11 b).2.1 := by decide +kernel
theorem tyJ11_ok : ∀ k, k < 0 → parseFieldDescriptor (TJ11 k).2.2.1 = some (tyJ11 k) := by decide +kernel
abbrev cJ11_isValidCodePoint_9a6ad : ByteArray := prog_17_method_11_code
def yJ11_isValidCodePoint_9a6ad : MethodName := ⟨RJ11, "isValidCodePoint", "(I)Z"⟩
abbrev cJ11_highSurrogate_5068e : ByteArray := prog_17_method_28_code
def yJ11_highSurrogate_5068e : MethodName := ⟨RJ11, "highSurrogate", "(I)C"⟩
abbrev cJ11_lowSurrogate_5068e : ByteArray := prog_17_method_29_code
def yJ11_lowSurrogate_5068e : MethodName := ⟨RJ11, "lowSurrogate", "(I)C"⟩
def RJx8e188 : String := "java/lang/Cloneable"
def TJx8e188 : u_T := fun k => match k with
  | _ => ("", "", "", false)
def tyJx8e188 : Nat → FieldType := fun k => match k with
  | _ => .int
abbrev wsJx8e1880 : List Cond := u_ws RJx8e188 TJx8e188 0
theorem nmJx8e188 : ∀ a, a < 0 → ∀ b, b < 0 → a ≠ b → (TJx8e188 a).2.1 ≠ (TJx8e188 b).2.1 := by decide +kernel
theorem tyJx8e188_ok : ∀ k, k < 0 → parseFieldDescriptor (TJx8e188 k).2.2.1 = some (tyJx8e188 k) := by decide +kernel
def RJxb160c : String := "java/lang/Comparable"
def TJxb160c : u_T := fun k => match k with
  | _ => ("", "", "", false)
def tyJxb160c : Nat → FieldType := fun k => match k with
  | _ => .int
abbrev wsJxb160c0 : List Cond := u_ws RJxb160c TJxb160c 0
theorem nmJxb160c : ∀ a, a < 0 → ∀ b, b < 0 → a ≠ b → (TJxb160c a).2.1 ≠ (TJxb160c b).2.1 := by decide +kernel
theorem tyJxb160c_ok : ∀ k, k < 0 → parseFieldDescriptor (TJxb160c k).2.2.1 = some (tyJxb160c k) := by decide +kernel
def RJ6 : String := "java/lang/Integer"
def TJ6 : u_T := fun k => match k with
  | _ => ("", "", "", false)
def tyJ6 : Nat → FieldType := fun k => match k with
  | _ => .int
abbrev wsJ60 : List Cond := u_ws RJ6 TJ6 0
theorem nmJ6 : ∀ a, a < 0 → ∀ b, b < 0 → a ≠ b → (TJ6 a).2.1 ≠ (TJ6 b).2.1 := by decide +kernel
theorem tyJ6_ok : ∀ k, k < 0 → parseFieldDescriptor (TJ6 k).2.2.1 = some (tyJ6 k) := by decide +kernel
abbrev cJ6_bitCount_0f7a4 : ByteArray := prog_21_method_49_code
def yJ6_bitCount_0f7a4 : MethodName := ⟨RJ6, "bitCount", "(I)I"⟩
def RJxab1ab : String := "java/lang/Iterable"
def TJxab1ab : u_T := fun k => match k with
  | _ => ("", "", "", false)
def tyJxab1ab : Nat → FieldType := fun k => match k with
  | _ => .int
abbrev wsJxab1ab0 : List Cond := u_ws RJxab1ab TJxab1ab 0
theorem nmJxab1ab : ∀ a, a < 0 → ∀ b, b < 0 → a ≠ b → (TJxab1ab a).2.1 ≠ (TJxab1ab b).2.1 := by decide +kernel
theorem tyJxab1ab_ok : ∀ k, k < 0 → parseFieldDescriptor (TJxab1ab k).2.2.1 = some (tyJxab1ab k) := by decide +kernel
def RJ9 : String := "java/lang/Math"
def TJ9 : u_T := fun k => match k with
  | _ => ("", "", "", false)
def tyJ9 : Nat → FieldType := fun k => match k with
  | _ => .int
abbrev wsJ90 : List Cond := u_ws RJ9 TJ9 0
theorem nmJ9 : ∀ a, a < 0 → ∀ b, b < 0 → a ≠ b → (TJ9 a).2.1 ≠ (TJ9 b).2.1 := by decide +kernel
theorem tyJ9_ok : ∀ k, k < 0 → parseFieldDescriptor (TJ9 k).2.2.1 = some (tyJ9 k) := by decide +kernel
abbrev cJ9_abs_0f7a4 : ByteArray := prog_23_method_59_code
def yJ9_abs_0f7a4 : MethodName := ⟨RJ9, "abs", "(I)I"⟩
abbrev cJ9_abs_067f4 : ByteArray := prog_23_method_61_code
def yJ9_abs_067f4 : MethodName := ⟨RJ9, "abs", "(J)J"⟩
abbrev cJ9_max_7cf53 : ByteArray := prog_23_method_65_code
def yJ9_max_7cf53 : MethodName := ⟨RJ9, "max", "(II)I"⟩
abbrev cJ9_max_f86c9 : ByteArray := prog_23_method_66_code
def yJ9_max_f86c9 : MethodName := ⟨RJ9, "max", "(JJ)J"⟩
abbrev cJ9_min_7cf53 : ByteArray := prog_23_method_69_code
def yJ9_min_7cf53 : MethodName := ⟨RJ9, "min", "(II)I"⟩
abbrev cJ9_min_f86c9 : ByteArray := prog_23_method_70_code
def yJ9_min_f86c9 : MethodName := ⟨RJ9, "min", "(JJ)J"⟩
def RJ0 : String := "java/lang/String"
def TJ0 : u_T := fun k => match k with
  | _ => ("", "", "", false)
def tyJ0 : Nat → FieldType := fun k => match k with
  | _ => .int
abbrev wsJ00 : List Cond := u_ws RJ0 TJ0 0
theorem nmJ0 : ∀ a, a < 0 → ∀ b, b < 0 → a ≠ b → (TJ0 a).2.1 ≠ (TJ0 b).2.1 := by decide +kernel
theorem tyJ0_ok : ∀ k, k < 0 → parseFieldDescriptor (TJ0 k).2.2.1 = some (tyJ0 k) := by decide +kernel
abbrev cJ0_length_8abf5 : ByteArray := prog_25_method_54_code
def yJ0_length_8abf5 : MethodName := ⟨RJ0, "length", "()I"⟩
abbrev cJ0_indexOf_0f7a4 : ByteArray := prog_25_method_79_code
def yJ0_indexOf_0f7a4 : MethodName := ⟨RJ0, "indexOf", "(I)I"⟩
abbrev cJ0_indexOf_7cf53 : ByteArray := prog_25_method_80_code
def yJ0_indexOf_7cf53 : MethodName := ⟨RJ0, "indexOf", "(II)I"⟩
abbrev cJ0_coder_7d493 : ByteArray := prog_25_method_152_code
def yJ0_coder_7d493 : MethodName := ⟨RJ0, "coder", "()B"⟩
abbrev cJ0_isLatin1_aae02 : ByteArray := prog_25_method_154_code
def yJ0_isLatin1_aae02 : MethodName := ⟨RJ0, "isLatin1", "()Z"⟩
abbrev cJ0_checkBoundsBeginEnd_23922 : ByteArray := prog_25_method_158_code
def yJ0_checkBoundsBeginEnd_23922 : MethodName := ⟨RJ0, "checkBoundsBeginEnd", "(III)V"⟩
def RJ1 : String := "java/lang/StringLatin1"
def TJ1 : u_T := fun k => match k with
  | _ => ("", "", "", false)
def tyJ1 : Nat → FieldType := fun k => match k with
  | _ => .int
abbrev wsJ10 : List Cond := u_ws RJ1 TJ1 0
theorem nmJ1 : ∀ a, a < 0 → ∀ b, b < 0 → a ≠ b → (TJ1 a).2.1 ≠ (TJ1 b).2.1 := by decide +kernel
theorem tyJ1_ok : ∀ k, k < 0 → parseFieldDescriptor (TJ1 k).2.2.1 = some (tyJ1 k) := by decide +kernel
abbrev cJ1_canEncode_9a6ad : ByteArray := prog_26_method_4_code
def yJ1_canEncode_9a6ad : MethodName := ⟨RJ1, "canEncode", "(I)Z"⟩
abbrev cJ1_indexOf_4cfef : ByteArray := prog_26_method_22_code
def yJ1_indexOf_4cfef : MethodName := ⟨RJ1, "indexOf", "([BIII)I"⟩
abbrev cJ1_indexOfChar_4cfef : ByteArray := prog_26_method_23_code
def yJ1_indexOfChar_4cfef : MethodName := ⟨RJ1, "indexOfChar", "([BIII)I"⟩
def RJ2 : String := "java/lang/StringUTF16"
def TJ2 : u_T := fun k => match k with
  | _ => ("", "", "", false)
def tyJ2 : Nat → FieldType := fun k => match k with
  | _ => .int
abbrev wsJ20 : List Cond := u_ws RJ2 TJ2 0
theorem nmJ2 : ∀ a, a < 0 → ∀ b, b < 0 → a ≠ b → (TJ2 a).2.1 ≠ (TJ2 b).2.1 := by decide +kernel
theorem tyJ2_ok : ∀ k, k < 0 → parseFieldDescriptor (TJ2 k).2.2.1 = some (tyJ2 k) := by decide +kernel
abbrev cJ2_getChar_3b067 : ByteArray := prog_27_method_5_code
def yJ2_getChar_3b067 : MethodName := ⟨RJ2, "getChar", "([BI)C"⟩
abbrev cJ2_length_9d52b : ByteArray := prog_27_method_6_code
def yJ2_length_9d52b : MethodName := ⟨RJ2, "length", "([B)I"⟩
abbrev cJ2_indexOf_4cfef : ByteArray := prog_27_method_40_code
def yJ2_indexOf_4cfef : MethodName := ⟨RJ2, "indexOf", "([BIII)I"⟩
abbrev cJ2_indexOfChar_4cfef : ByteArray := prog_27_method_47_code
def yJ2_indexOfChar_4cfef : MethodName := ⟨RJ2, "indexOfChar", "([BIII)I"⟩
abbrev cJ2_indexOfCharUnsafe_4cfef : ByteArray := prog_27_method_48_code
def yJ2_indexOfCharUnsafe_4cfef : MethodName := ⟨RJ2, "indexOfCharUnsafe", "([BIII)I"⟩
abbrev cJ2_indexOfSupplementary_4cfef : ByteArray := prog_27_method_49_code
def yJ2_indexOfSupplementary_4cfef : MethodName := ⟨RJ2, "indexOfSupplementary", "([BIII)I"⟩
abbrev cJ2_checkBoundsBeginEnd_d044e : ByteArray := prog_27_method_93_code
def yJ2_checkBoundsBeginEnd_d044e : MethodName := ⟨RJ2, "checkBoundsBeginEnd", "(II[B)V"⟩
def RJ10 : String := "java/lang/System"
def TJ10 : u_T := fun k => match k with
  | _ => ("", "", "", false)
def tyJ10 : Nat → FieldType := fun k => match k with
  | _ => .int
abbrev wsJ100 : List Cond := u_ws RJ10 TJ10 0
theorem nmJ10 : ∀ a, a < 0 → ∀ b, b < 0 → a ≠ b → (TJ10 a).2.1 ≠ (TJ10 b).2.1 := by decide +kernel
theorem tyJ10_ok : ∀ k, k < 0 → parseFieldDescriptor (TJ10 k).2.2.1 = some (tyJ10 k) := by decide +kernel
def RJxfd54e : String := "java/lang/constant/Constable"
def TJxfd54e : u_T := fun k => match k with
  | _ => ("", "", "", false)
def tyJxfd54e : Nat → FieldType := fun k => match k with
  | _ => .int
abbrev wsJxfd54e0 : List Cond := u_ws RJxfd54e TJxfd54e 0
theorem nmJxfd54e : ∀ a, a < 0 → ∀ b, b < 0 → a ≠ b → (TJxfd54e a).2.1 ≠ (TJxfd54e b).2.1 := by decide +kernel
theorem tyJxfd54e_ok : ∀ k, k < 0 → parseFieldDescriptor (TJxfd54e k).2.2.1 = some (tyJxfd54e k) := by decide +kernel
def RJx3cf43 : String := "java/lang/constant/ConstantDesc"
def TJx3cf43 : u_T := fun k => match k with
  | _ => ("", "", "", false)
def tyJx3cf43 : Nat → FieldType := fun k => match k with
  | _ => .int
abbrev wsJx3cf430 : List Cond := u_ws RJx3cf43 TJx3cf43 0
theorem nmJx3cf43 : ∀ a, a < 0 → ∀ b, b < 0 → a ≠ b → (TJx3cf43 a).2.1 ≠ (TJx3cf43 b).2.1 := by decide +kernel
theorem tyJx3cf43_ok : ∀ k, k < 0 → parseFieldDescriptor (TJx3cf43 k).2.2.1 = some (tyJx3cf43 k) := by decide +kernel
def RJxa1e45 : String := "java/util/AbstractCollection"
def TJxa1e45 : u_T := fun k => match k with
  | _ => ("", "", "", false)
def tyJxa1e45 : Nat → FieldType := fun k => match k with
  | _ => .int
abbrev wsJxa1e450 : List Cond := u_ws RJxa1e45 TJxa1e45 0
theorem nmJxa1e45 : ∀ a, a < 0 → ∀ b, b < 0 → a ≠ b → (TJxa1e45 a).2.1 ≠ (TJxa1e45 b).2.1 := by decide +kernel
theorem tyJxa1e45_ok : ∀ k, k < 0 → parseFieldDescriptor (TJxa1e45 k).2.2.1 = some (tyJxa1e45 k) := by decide +kernel
abbrev cJxa1e45_init_da8c8 : ByteArray := prog_32_method_1_code
def yJxa1e45_init_da8c8 : MethodName := ⟨RJxa1e45, "<init>", "()V"⟩
def RJxc12de : String := "java/util/AbstractList"
def TJxc12de : u_T := fun k => match k with
  | _ => ("", "", "", false)
def tyJxc12de : Nat → FieldType := fun k => match k with
  | _ => .int
abbrev wsJxc12de0 : List Cond := u_ws RJxc12de TJxc12de 0
theorem nmJxc12de : ∀ a, a < 0 → ∀ b, b < 0 → a ≠ b → (TJxc12de a).2.1 ≠ (TJxc12de b).2.1 := by decide +kernel
theorem tyJxc12de_ok : ∀ k, k < 0 → parseFieldDescriptor (TJxc12de k).2.2.1 = some (tyJxc12de k) := by decide +kernel
abbrev cJxc12de_init_da8c8 : ByteArray := prog_33_method_1_code
def yJxc12de_init_da8c8 : MethodName := ⟨RJxc12de, "<init>", "()V"⟩
def RJx4a65c : String := "java/util/ArrayList"
def TJx4a65c : u_T := fun k => match k with
  | 0 => ("java/util/AbstractList", "modCount", "I", false)
  | 1 => ("java/util/ArrayList", "elementData", "[Ljava/lang/Object;", false)
  | _ => ("java/util/ArrayList", "size", "I", false)
def tyJx4a65c : Nat → FieldType := fun k => match k with
  | 0 => .int
  | 1 => .array (.object "java/lang/Object")
  | _ => .int
abbrev wsJx4a65c0 : List Cond := u_ws RJx4a65c TJx4a65c 3
theorem nmJx4a65c : ∀ a, a < 3 → ∀ b, b < 3 → a ≠ b → (TJx4a65c a).2.1 ≠ (TJx4a65c b).2.1 := by decide +kernel
theorem tyJx4a65c_ok : ∀ k, k < 3 → parseFieldDescriptor (TJx4a65c k).2.2.1 = some (tyJx4a65c k) := by decide +kernel
abbrev cJx4a65c_init_da8c8 : ByteArray := prog_34_method_2_code
def yJx4a65c_init_da8c8 : MethodName := ⟨RJx4a65c, "<init>", "()V"⟩
abbrev cJx4a65c_grow_92f84 : ByteArray := prog_34_method_6_code
def yJx4a65c_grow_92f84 : MethodName := ⟨RJx4a65c, "grow", "(I)[Ljava/lang/Object;"⟩
abbrev cJx4a65c_grow_d5877 : ByteArray := prog_34_method_7_code
def yJx4a65c_grow_d5877 : MethodName := ⟨RJx4a65c, "grow", "()[Ljava/lang/Object;"⟩
abbrev cJx4a65c_size_8abf5 : ByteArray := prog_34_method_8_code
def yJx4a65c_size_8abf5 : MethodName := ⟨RJx4a65c, "size", "()I"⟩
abbrev cJx4a65c_elementData_915e3 : ByteArray := prog_34_method_18_code
def yJx4a65c_elementData_915e3 : MethodName := ⟨RJx4a65c, "elementData", "(I)Ljava/lang/Object;"⟩
abbrev cJx4a65c_get_915e3 : ByteArray := prog_34_method_20_code
def yJx4a65c_get_915e3 : MethodName := ⟨RJx4a65c, "get", "(I)Ljava/lang/Object;"⟩
abbrev cJx4a65c_add_72be8 : ByteArray := prog_34_method_24_code
def yJx4a65c_add_72be8 : MethodName := ⟨RJx4a65c, "add", "(Ljava/lang/Object;[Ljava/lang/Object;I)V"⟩
abbrev cJx4a65c_add_9ea2d : ByteArray := prog_34_method_25_code
def yJx4a65c_add_9ea2d : MethodName := ⟨RJx4a65c, "add", "(Ljava/lang/Object;)Z"⟩
def RJ7 : String := "java/util/Arrays"
def TJ7 : u_T := fun k => match k with
  | _ => ("", "", "", false)
def tyJ7 : Nat → FieldType := fun k => match k with
  | _ => .int
abbrev wsJ70 : List Cond := u_ws RJ7 TJ7 0
theorem nmJ7 : ∀ a, a < 0 → ∀ b, b < 0 → a ≠ b → (TJ7 a).2.1 ≠ (TJ7 b).2.1 := by decide +kernel
theorem tyJ7_ok : ∀ k, k < 0 → parseFieldDescriptor (TJ7 k).2.2.1 = some (tyJ7 k) := by decide +kernel
abbrev cJ7_fill_53178 : ByteArray := prog_35_method_103_code
def yJ7_fill_53178 : MethodName := ⟨RJ7, "fill", "([II)V"⟩
abbrev cJ7_copyOf_1904c : ByteArray := prog_35_method_119_code
def yJ7_copyOf_1904c : MethodName := ⟨RJ7, "copyOf", "([Ljava/lang/Object;I)[Ljava/lang/Object;"⟩
abbrev cJ7_copyOf_6403c : ByteArray := prog_35_method_120_code
def yJ7_copyOf_6403c : MethodName := ⟨RJ7, "copyOf", "([Ljava/lang/Object;ILjava/lang/Class;)[Ljava/lang/Object;"⟩
abbrev cJ7_copyOf_59c91 : ByteArray := prog_35_method_123_code
def yJ7_copyOf_59c91 : MethodName := ⟨RJ7, "copyOf", "([II)[I"⟩
def RJx5ef63 : String := "java/util/Collection"
def TJx5ef63 : u_T := fun k => match k with
  | _ => ("", "", "", false)
def tyJx5ef63 : Nat → FieldType := fun k => match k with
  | _ => .int
abbrev wsJx5ef630 : List Cond := u_ws RJx5ef63 TJx5ef63 0
theorem nmJx5ef63 : ∀ a, a < 0 → ∀ b, b < 0 → a ≠ b → (TJx5ef63 a).2.1 ≠ (TJx5ef63 b).2.1 := by decide +kernel
theorem tyJx5ef63_ok : ∀ k, k < 0 → parseFieldDescriptor (TJx5ef63 k).2.2.1 = some (tyJx5ef63 k) := by decide +kernel
def RJxbd725 : String := "java/util/List"
def TJxbd725 : u_T := fun k => match k with
  | _ => ("", "", "", false)
def tyJxbd725 : Nat → FieldType := fun k => match k with
  | _ => .int
abbrev wsJxbd7250 : List Cond := u_ws RJxbd725 TJxbd725 0
theorem nmJxbd725 : ∀ a, a < 0 → ∀ b, b < 0 → a ≠ b → (TJxbd725 a).2.1 ≠ (TJxbd725 b).2.1 := by decide +kernel
theorem tyJxbd725_ok : ∀ k, k < 0 → parseFieldDescriptor (TJxbd725 k).2.2.1 = some (tyJxbd725 k) := by decide +kernel
def RJ15 : String := "java/util/Objects"
def TJ15 : u_T := fun k => match k with
  | _ => ("", "", "", false)
def tyJ15 : Nat → FieldType := fun k => match k with
  | _ => .int
abbrev wsJ150 : List Cond := u_ws RJ15 TJ15 0
theorem nmJ15 : ∀ a, a < 0 → ∀ b, b < 0 → a ≠ b → (TJ15 a).2.1 ≠ (TJ15 b).2.1 := by decide +kernel
theorem tyJ15_ok : ∀ k, k < 0 → parseFieldDescriptor (TJ15 k).2.2.1 = some (tyJ15 k) := by decide +kernel
abbrev cJ15_checkIndex_7cf53 : ByteArray := prog_39_method_17_code
def yJ15_checkIndex_7cf53 : MethodName := ⟨RJ15, "checkIndex", "(II)I"⟩
def RJxf0a74 : String := "java/util/RandomAccess"
def TJxf0a74 : u_T := fun k => match k with
  | _ => ("", "", "", false)
def tyJxf0a74 : Nat → FieldType := fun k => match k with
  | _ => .int
abbrev wsJxf0a740 : List Cond := u_ws RJxf0a74 TJxf0a74 0
theorem nmJxf0a74 : ∀ a, a < 0 → ∀ b, b < 0 → a ≠ b → (TJxf0a74 a).2.1 ≠ (TJxf0a74 b).2.1 := by decide +kernel
theorem tyJxf0a74_ok : ∀ k, k < 0 → parseFieldDescriptor (TJxf0a74 k).2.2.1 = some (tyJxf0a74 k) := by decide +kernel
def RJxa66e6 : String := "java/util/SequencedCollection"
def TJxa66e6 : u_T := fun k => match k with
  | _ => ("", "", "", false)
def tyJxa66e6 : Nat → FieldType := fun k => match k with
  | _ => .int
abbrev wsJxa66e60 : List Cond := u_ws RJxa66e6 TJxa66e6 0
theorem nmJxa66e6 : ∀ a, a < 0 → ∀ b, b < 0 → a ≠ b → (TJxa66e6 a).2.1 ≠ (TJxa66e6 b).2.1 := by decide +kernel
theorem tyJxa66e6_ok : ∀ k, k < 0 → parseFieldDescriptor (TJxa66e6 k).2.2.1 = some (tyJxa66e6 k) := by decide +kernel
def RJ8 : String := "jdk/internal/util/ArraysSupport"
def TJ8 : u_T := fun k => match k with
  | _ => ("", "", "", false)
def tyJ8 : Nat → FieldType := fun k => match k with
  | _ => .int
abbrev wsJ80 : List Cond := u_ws RJ8 TJ8 0
theorem nmJ8 : ∀ a, a < 0 → ∀ b, b < 0 → a ≠ b → (TJ8 a).2.1 ≠ (TJ8 b).2.1 := by decide +kernel
theorem tyJ8_ok : ∀ k, k < 0 → parseFieldDescriptor (TJ8 k).2.2.1 = some (tyJ8 k) := by decide +kernel
abbrev cJ8_newLength_cabcc : ByteArray := prog_42_method_27_code
def yJ8_newLength_cabcc : MethodName := ⟨RJ8, "newLength", "(III)I"⟩
abbrev cJ8_hugeLength_7cf53 : ByteArray := prog_42_method_28_code
def yJ8_hugeLength_7cf53 : MethodName := ⟨RJ8, "hugeLength", "(II)I"⟩
def RJ3 : String := "jdk/internal/util/Preconditions"
def TJ3 : u_T := fun k => match k with
  | _ => ("", "", "", false)
def tyJ3 : Nat → FieldType := fun k => match k with
  | _ => .int
abbrev wsJ30 : List Cond := u_ws RJ3 TJ3 0
theorem nmJ3 : ∀ a, a < 0 → ∀ b, b < 0 → a ≠ b → (TJ3 a).2.1 ≠ (TJ3 b).2.1 := by decide +kernel
theorem tyJ3_ok : ∀ k, k < 0 → parseFieldDescriptor (TJ3 k).2.2.1 = some (tyJ3 k) := by decide +kernel
abbrev cJ3_checkIndex_8e157 : ByteArray := prog_43_method_11_code
def yJ3_checkIndex_8e157 : MethodName := ⟨RJ3, "checkIndex", "(IILjava/util/function/BiFunction;)I"⟩
abbrev cJ3_checkFromToIndex_8c36e : ByteArray := prog_43_method_12_code
def yJ3_checkFromToIndex_8c36e : MethodName := ⟨RJ3, "checkFromToIndex", "(IIILjava/util/function/BiFunction;)I"⟩
def RL : String := "DiaryHouseLaw"
abbrev cL_told : ByteArray := method_3_code
def yL_told : MethodName := ⟨RL, "told", "(LDiaryHouse;II[J)I"⟩
abbrev cL_law : ByteArray := code
def yL_law : MethodName := ⟨RL, "law", "([I)Z"⟩
abbrev vwCl : List vw_C := [(RJx4a65c, TJx4a65c, 3), (RX0, TX0, 5), (RX1, TX1, 7), (RX2, TX2, 4), (RX3, TX3, 2), (RX4, TX4, 4), (RX5, TX5, 2), (RX6, TX6, 3), (RX7, TX7, 3), (RX8, TX8, 9), (RX9, TX9, 5), (RX10, TX10, 3), (RX11, TX11, 17), (RX12, TX12, 66)]
end
section
/-! FOUNDATION: one memory for all cells (address to kind, size, contents), a judgement XJ of a frame over it, a contract CT of a method over it. -/
abbrev Cel : Type := Nat × Nat × (Nat → Value)
abbrev Mem : Type := Nat → Option Cel
abbrev Lv : Type := List (Nat × Value)
/-- launch, the state at the law's entry, class numbers, array classes -/
abbrev Gam : Type := Launch × State × va_G × (Nat → ClassId)
/-- a method: name, code, locals, what it returns -/
abbrev MR : Type := MethodName × ByteArray × Nat × Option FieldType
def tyA (k : Nat) : FieldType := match k with
  | 101 => .byte
  | 102 => .char
  | 103 => .boolean
  | 104 => .long
  | 105 => .array .int
  | 106 => .object "java/lang/Object"
  | _ => .int
def cAt (D : va_G) (tA : Nat → ClassId) (a : Nat) (c : Cel) (H : Heap) : Prop :=
  (c.1 < 100 ∧ ∃ q : vw_C, vwCl[c.1]? = some q ∧ q.2.2 = c.2.1 ∧ t_OB a (D.1 c.1) q.2.2 (D.2 c.1) H c.2.2) ∨ (100 ≤ c.1 ∧ H[a]? = some (arrV (tA c.1) c.2.1 c.2.2))
def Rel (G : Gam) (M : Mem) (H : Heap) : Prop := ∀ (a : Nat) (c : Cel), M a = some c → G.2.1.heap.size ≤ a ∧ cAt G.2.2.1 G.2.2.2 a c H
def OldOK (G : Gam) (H : Heap) : Prop := G.2.1.heap.size ≤ H.size ∧ ∀ q : Nat, q < G.2.1.heap.size → H[q]? = G.2.1.heap[q]?
/-- what the tables say of an array class -/
def ArrK (U : State) (tA : Nat → ClassId) (k : Nat) : Prop := ArrOfT U (tA k) (tyA k) ∧ U.vm.findClass ("[" ++ (tyA k).toString) = some (tA k) ∧ ∃ (kA : Class) (comp : ClassId), U.vm.classes[tA k]? = some kA ∧ kA.kind = .array comp (tyA k)
def BaseOK (G : Gam) : Prop :=
  (∃ b : Nat, ∀ w ∈ lw_tbl, w.before #[Value.ref b] G.2.1 = true) ∧ va_K G.2.2.1 vwCl [] G.2.1 ∧ (∀ k, 100 ≤ k → k < 107 → ArrK G.2.1 G.2.2.2 k)
def AX (M : Mem) (sz : Nat) : Nat → Prop := fun q => (∃ c, M q = some c) ∨ sz ≤ q
def QX (G : Gam) (A : Nat → Prop) (Q : Option Value → Mem → Prop) : Array Value → State → Outcome → State → Prop := fun _ st oc t =>
  (∃ (r : Option Value) (M : Mem), oc = .returned r ∧ Q r M ∧ Rel G M t.heap ∧ ∀ a c, M a = some c → A a) ∧ va_F A st t
def rmX (d : Nat) (k : Nat × Nat) : Room := { frames := d, cells := k.1, slots := k.2, locals := 64 * d }
def PX (G : Gam) (M : Mem) (sz : Nat) (U : State) : Prop := BaseOK G ∧ G.2.1.WarmedH U.vm ∧ OldOK G U.heap ∧ U.heap.size = sz ∧ Rel G M U.heap
def CT (G : Gam) (d : Nat) (k : Nat × Nat) (Y : MR) (av : List Value) (M : Mem) (Q : Option Value → Mem → Prop) : Prop :=
  ∀ sz : Nat, Met G.1 Y.1 [.code Y.1 Y.2.1 Y.2.2.1 Y.2.2.2] (rmX d k) (va_Pc av (PX G M sz)) (QX G (AX M sz) Q) k.1 k.2 (AX M sz)
def XC (G : Gam) (d : Nat) (Y : MR) (p : Program) (R : Room) (s : State) (m : MethodId) (meth : Method) (c : Code) (A : Nat → Prop) : Prop :=
  BaseOK G ∧ p.tables.exec = Jvm.exec ∧ c.code = Y.2.1 ∧ meth.sig.returnType = Y.2.2.2 ∧ c.maxLocals = Y.2.2.1 ∧ s.vm.findClass Y.1.cls = some m.cls ∧ meth.locks = false ∧ meth.name = Y.1.name ∧
  G.2.1.WarmedH s.vm ∧ R.frames = d ∧ R.locals = 64 * d ∧ (∀ q, s.heap.size ≤ q → A q) ∧ (∀ q, A q → G.2.1.heap.size ≤ q) ∧ OldOK G s.heap
def XH (G : Gam) (k : Nat × Nat) (M : Mem) (R : Room) (s : State) (A : Nat → Prop) (H : Heap) (locs : List Loc) (cells slots : Nat) : Prop :=
  Rel G M H ∧ (∀ a c, M a = some c → A a) ∧ va_S A s.heap H locs ∧ cells + k.1 ≤ R.cells ∧ slots + k.2 ≤ R.slots
def XJ (G : Gam) (d : Nat) (k : Nat × Nat) (Y : MR) (M : Mem) (lv : Lv) (st : List Value) (pc : Nat) (Q : Option Value → Mem → Prop) : Prop :=
  ∀ (p : Program) (e : Env) (R : Room) (s : State) (m : MethodId) (args : Array Value) (below : List Frame) (meth : Method) (c : Code) (H : Heap) (locs : List Loc) (cells slots : Nat) (A : Nat → Prop) (ls : Array Slot),
    XC G d Y p R s m meth c A → XH G k M R s A H locs cells slots → lv_has ls Y.2.2.1 lv →
    W p G.1 e R s m args below meth c H locs cells slots (MQ below (QX G A Q) args s R.cells R.slots A) (F0 m pc ls st)
/-! words of the tables, anywhere -/
theorem tb_good {G : Gam} (hB : BaseOK G) {w : Cond} (hw : w ∈ lw_tbl) (hg : goodWord w = true) {args : Array Value} {s : State} (hW : G.2.1.WarmedH s.vm) : w.before args s = true := by
  obtain ⟨⟨b, h⟩, -⟩ := hB
  exact word_at hW (good_of_word hg) (h w hw)
theorem tb_nestF {G : Gam} (hB : BaseOK G) {own ref name desc host : String} {i : Nat} (hw : Cond.fieldLinkNest own i ref name desc host ∈ lw_tbl) {args : Array Value} {s : State} (hW : G.2.1.WarmedH s.vm) : (Cond.fieldLinkNest own i ref name desc host).before args s = true := by
  obtain ⟨⟨b, h⟩, -⟩ := hB
  exact va_Nw.use rfl (va_Nw.warmF hW (va_Nw.of rfl (h _ hw)))
theorem tb_nestM {G : Gam} (hB : BaseOK G) {own host : String} {i : Nat} {y : MethodName} (hw : Cond.methodLinkNest own i y host ∈ lw_tbl) {s : State} (hW : G.2.1.WarmedH s.vm) : va_Nw (Cond.methodLinkNest own i y host) s := by
  obtain ⟨⟨b, h⟩, -⟩ := hB
  exact va_Nw.warmM hW (va_Nw.of rfl (h _ hw))
theorem bs_K {G : Gam} (hB : BaseOK G) {s : State} (hW : G.2.1.WarmedH s.vm) : va_K G.2.2.1 vwCl [] s := va_K.moved hW.alike hB.2.1
theorem oldX {G : Gam} {A : Nat → Prop} {s : State} {H : Heap} {locs : List Loc} (hO : OldOK G s.heap) (hS : va_S A s.heap H locs) (hb : ∀ q, A q → G.2.1.heap.size ≤ q) : OldOK G H :=
  ⟨Nat.le_trans hO.1 hS.1, fun q hq => (hS.2.1 q (Nat.lt_of_lt_of_le hq hO.1) (fun h => absurd (hb q h) (Nat.not_le.mpr hq))).trans (hO.2 q hq)⟩
/-! locals -/
def lget : Lv → Nat → Option Value
  | [], _ => none
  | (j, v) :: t, i => bif Nat.beq j i then some v else lget t i
theorem lget_mem : ∀ {lv : Lv} {i : Nat} {v : Value}, lget lv i = some v → (i, v) ∈ lv
  | [], _, _, h => by cases h
  | (j, w) :: t, i, v, h => by
    unfold lget at h
    cases e : Nat.beq j i with
    | true =>
      rw [e] at h
      have hj : j = i := Nat.eq_of_beq_eq_true e
      cases h
      subst hj
      exact List.mem_cons_self
    | false =>
      rw [e] at h
      exact List.mem_cons_of_mem _ (lget_mem h)
theorem lget_has {ls : Array Slot} {n : Nat} {lv : Lv} (h : lv_has ls n lv) {i : Nat} {v : Value} (hg : lget lv i = some v) : ls[i]? = some (.val v) := h.2.2 (i, v) (lget_mem hg)
theorem lget_lt {ls : Array Slot} {n : Nat} {lv : Lv} (h : lv_has ls n lv) {i : Nat} {v : Value} (hg : lget lv i = some v) : i < n := by
  have := (Array.getElem?_eq_some_iff.mp (lget_has h hg)).1
  rw [← h.1]; exact this
def lkil (i : Nat) : Lv → Lv
  | [] => []
  | (j, v) :: t => bif Nat.beq j i then lkil i t else (bif Nat.beq (j + 1) i && Nat.beq v.category 2 then lkil i t else (j, v) :: lkil i t)
theorem lkil_sub : ∀ {lv : Lv} {i : Nat} {q : Nat × Value}, q ∈ lkil i lv → q ∈ lv.filter (fun q => !(q.1 == i) && !(q.1 + 1 == i && q.2.category == 2))
  | [], _, _, h => by cases h
  | (j, w) :: t, i, q, h => by
    unfold lkil at h
    rw [List.filter_cons]
    cases e : Nat.beq j i with
    | true =>
      rw [e] at h
      have hj : (j == i) = true := by rw [beq_iff_eq]; exact Nat.eq_of_beq_eq_true e
      simp only [hj, Bool.not_true, Bool.false_and, Bool.false_eq_true, if_false]
      exact lkil_sub h
    | false =>
      rw [e] at h
      have hj : (j == i) = false := by
        rw [beq_eq_false_iff_ne]; exact Nat.ne_of_beq_eq_false e
      cases e2 : (Nat.beq (j + 1) i && Nat.beq w.category 2) with
      | true =>
        rw [e2] at h
        have h3 := lkil_sub (lv := t) h
        split
        · exact List.mem_cons_of_mem _ h3
        · exact h3
      | false =>
        rw [e2] at h
        have hk : (j + 1 == i && w.category == 2) = false := by
          cases e3 : (j + 1 == i && w.category == 2) with
          | false => rfl
          | true =>
            rw [Bool.and_eq_true, beq_iff_eq, beq_iff_eq] at e3
            rw [e3.1, e3.2] at e2
            simp at e2
        simp only [hj, hk, Bool.not_false, Bool.and_true, if_true]
        rcases List.mem_cons.mp h with h | h
        · rw [h]; exact List.mem_cons_self
        · exact List.mem_cons_of_mem _ (lkil_sub h)
def lset (lv : Lv) (i : Nat) (v : Value) : Lv := (i, v) :: lkil i lv
theorem lset_has {ls : Array Slot} {n i : Nat} {v : Value} {lv : Lv} (h : lv_has ls n ((i, v) :: lv.filter (fun q => !(q.1 == i) && !(q.1 + 1 == i && q.2.category == 2)))) : lv_has ls n (lset lv i v) := by
  refine ⟨h.1, h.2.1, fun q hq => h.2.2 q ?_⟩
  rcases List.mem_cons.mp hq with hq | hq
  · rw [hq]; exact List.mem_cons_self
  · exact List.mem_cons_of_mem _ (lkil_sub hq)
/-- a long's two places -/
def lset2 (lv : Lv) (i : Nat) (v : Value) : Lv := (i, v) :: lkil (i + 1) (lkil i lv)
theorem lkil_mem {lv : Lv} {i : Nat} {q : Nat × Value} (h : q ∈ lkil i lv) : q ∈ lv ∧ q.1 ≠ i ∧ ¬ (q.1 + 1 = i ∧ q.2.category = 2) := by
  have h1 := List.mem_filter.mp (lkil_sub h)
  refine ⟨h1.1, ?_, ?_⟩
  · intro e
    have := h1.2
    simp [e] at this
  · intro ⟨e1, e2⟩
    have := h1.2
    simp [e1, e2] at this
theorem lset2_has {ls : Array Slot} {n i : Nat} {v : Value} {lv : Lv} (h : lv_has ls n ((i, v) :: lv.filter (fun q => !(q.1 == i) && (!(q.1 == i + 1) && !(q.1 + 1 == i && q.2.category == 2))))) : lv_has ls n (lset2 lv i v) := by
  refine ⟨h.1, h.2.1, fun q hq => h.2.2 q ?_⟩
  rcases List.mem_cons.mp hq with hq | hq
  · rw [hq]; exact List.mem_cons_self
  · obtain ⟨h1, h2, -⟩ := lkil_mem hq
    obtain ⟨h3, h4, h5⟩ := lkil_mem h1
    refine List.mem_cons_of_mem _ (List.mem_filter.mpr ⟨h3, ?_⟩)
    simp only [Bool.and_eq_true, Bool.not_eq_true', beq_eq_false_iff_ne, ne_eq, Bool.and_eq_false_iff]
    refine ⟨h4, h2, ?_⟩
    by_cases e : q.1 + 1 = i
    · exact Or.inr (by intro z; exact h5 ⟨e, by simpa using z⟩)
    · exact Or.inl e
/-- fewer listed locals -/
def lle : Lv → Lv → Prop
  | [], _ => True
  | (i, v) :: t, lv => lget lv i = some v ∧ lle t lv
theorem lle_has : ∀ {l1 lv : Lv} {ls : Array Slot} {n : Nat}, lle l1 lv → lv_has ls n lv → lv_has ls n l1
  | [], _, _, _, _, h => ⟨h.1, h.2.1, fun q hq => by cases hq⟩
  | (i, v) :: t, lv, ls, n, h1, h => by
    obtain ⟨a, b, c⟩ := lle_has (l1 := t) h1.2 h
    refine ⟨a, b, fun q hq => ?_⟩
    rcases List.mem_cons.mp hq with hq | hq
    · rw [hq]; exact lget_has h h1.1
    · exact c q hq
end
section
section XR
variable {G : Gam} {d : Nat} {k : Nat × Nat} {Y : MR} {M : Mem} {lv : Lv} {st : List Value} {pc : Nat} {Q : Option Value → Mem → Prop}
theorem x_iconst {n : Int} {v : Int32} (hd : decode Y.2.1 pc = .ok (.iconst n, 1)) (hv : Int32.ofInt n = v) (kk : XJ G d k Y M lv (.int v :: st) (pc + 1) Q) : XJ G d k Y M lv st pc Q :=
  fun p e R s m args below meth c H locs cells slots A ls hC hH hl => lv_iconst hC.2.1 hC.2.2.1 hd hv (kk p e R s m args below meth c H locs cells slots A ls hC hH hl)
theorem x_bipush {n : Int} {v : Int32} (hd : decode Y.2.1 pc = .ok (.bipush n, 2)) (hv : (Int8.ofInt n).toInt32 = v) (kk : XJ G d k Y M lv (.int v :: st) (pc + 2) Q) : XJ G d k Y M lv st pc Q :=
  fun p e R s m args below meth c H locs cells slots A ls hC hH hl => lv_bipush hC.2.1 hC.2.2.1 hd hv (kk p e R s m args below meth c H locs cells slots A ls hC hH hl)
theorem x_sipush {n : Int} {v : Int32} (hd : decode Y.2.1 pc = .ok (.sipush n, 3)) (hv : (Int16.ofInt n).toInt32 = v) (kk : XJ G d k Y M lv (.int v :: st) (pc + 3) Q) : XJ G d k Y M lv st pc Q :=
  fun p e R s m args below meth c H locs cells slots A ls hC hH hl => lv_sipush hC.2.1 hC.2.2.1 hd hv (kk p e R s m args below meth c H locs cells slots A ls hC hH hl)
theorem x_lconst {n : Fin 2} {v : Int64} (hd : decode Y.2.1 pc = .ok (.lconst n, 1)) (hv : Int64.ofNat (n : Nat) = v) (kk : XJ G d k Y M lv (.long v :: st) (pc + 1) Q) : XJ G d k Y M lv st pc Q :=
  fun p e R s m args below meth c H locs cells slots A ls hC hH hl => lv_lconst hC.2.1 hC.2.2.1 hd hv (kk p e R s m args below meth c H locs cells slots A ls hC hH hl)
theorem x_null  (hd : decode Y.2.1 pc = .ok (.aconst_null, 1)) (kk : XJ G d k Y M lv (.null :: st) (pc + 1) Q) : XJ G d k Y M lv st pc Q :=
  fun p e R s m args below meth c H locs cells slots A ls hC hH hl => lv_null hC.2.1 hC.2.2.1 hd (kk p e R s m args below meth c H locs cells slots A ls hC hH hl)
theorem x_iload_n {j : Fin 4} {i : Nat} {x : Int32} (hd : decode Y.2.1 pc = .ok (.iload_n j, 1)) (hi : (j : Nat) = i) (hg : lget lv i = some (.int x)) (kk : XJ G d k Y M lv (.int x :: st) (pc + 1) Q) : XJ G d k Y M lv st pc Q :=
  fun p e R s m args below meth c H locs cells slots A ls hC hH hl => lv_iload_n hC.2.1 hC.2.2.1 hd hi (lget_has hl hg) (kk p e R s m args below meth c H locs cells slots A ls hC hH hl)
theorem x_iload {i : Nat} {x : Int32} (hd : decode Y.2.1 pc = .ok (.iload i, 2)) (hg : lget lv i = some (.int x)) (kk : XJ G d k Y M lv (.int x :: st) (pc + 2) Q) : XJ G d k Y M lv st pc Q :=
  fun p e R s m args below meth c H locs cells slots A ls hC hH hl => lv_iload hC.2.1 hC.2.2.1 hd (lget_has hl hg) (kk p e R s m args below meth c H locs cells slots A ls hC hH hl)
theorem x_lload_n {j : Fin 4} {i : Nat} {x : Int64} (hd : decode Y.2.1 pc = .ok (.lload_n j, 1)) (hi : (j : Nat) = i) (hg : lget lv i = some (.long x)) (kk : XJ G d k Y M lv (.long x :: st) (pc + 1) Q) : XJ G d k Y M lv st pc Q :=
  fun p e R s m args below meth c H locs cells slots A ls hC hH hl => lv_lload_n hC.2.1 hC.2.2.1 hd hi (lget_has hl hg) (kk p e R s m args below meth c H locs cells slots A ls hC hH hl)
theorem x_lload {i : Nat} {x : Int64} (hd : decode Y.2.1 pc = .ok (.lload i, 2)) (hg : lget lv i = some (.long x)) (kk : XJ G d k Y M lv (.long x :: st) (pc + 2) Q) : XJ G d k Y M lv st pc Q :=
  fun p e R s m args below meth c H locs cells slots A ls hC hH hl => lv_lload hC.2.1 hC.2.2.1 hd (lget_has hl hg) (kk p e R s m args below meth c H locs cells slots A ls hC hH hl)
theorem x_aload_n {j : Fin 4} {i : Nat} {x : Nat} (hd : decode Y.2.1 pc = .ok (.aload_n j, 1)) (hi : (j : Nat) = i) (hg : lget lv i = some (.ref x)) (kk : XJ G d k Y M lv (.ref x :: st) (pc + 1) Q) : XJ G d k Y M lv st pc Q :=
  fun p e R s m args below meth c H locs cells slots A ls hC hH hl => lv_aload_n hC.2.1 hC.2.2.1 hd hi (lget_has hl hg) (kk p e R s m args below meth c H locs cells slots A ls hC hH hl)
theorem x_aload {i : Nat} {x : Nat} (hd : decode Y.2.1 pc = .ok (.aload i, 2)) (hg : lget lv i = some (.ref x)) (kk : XJ G d k Y M lv (.ref x :: st) (pc + 2) Q) : XJ G d k Y M lv st pc Q :=
  fun p e R s m args below meth c H locs cells slots A ls hC hH hl => lv_aload hC.2.1 hC.2.2.1 hd (lget_has hl hg) (kk p e R s m args below meth c H locs cells slots A ls hC hH hl)
theorem x_istore_n {j : Fin 4} {i : Nat} {x : Int32} (hd : decode Y.2.1 pc = .ok (.istore_n j, 1)) (hi : (j : Nat) = i) (hn : i < Y.2.2.1) (kk : XJ G d k Y M (lset lv i (.int x)) st (pc + 1) Q) : XJ G d k Y M lv (.int x :: st) pc Q :=
  fun p e R s m args below meth c H locs cells slots A ls hC hH hl => lv_istore_n hC.2.1 hC.2.2.1 hd hi hl hn rfl (fun ls' hl' => kk p e R s m args below meth c H locs cells slots A ls' hC hH (lset_has hl'))
theorem x_istore {i : Nat} {x : Int32} (hd : decode Y.2.1 pc = .ok (.istore i, 2)) (hn : i < Y.2.2.1) (kk : XJ G d k Y M (lset lv i (.int x)) st (pc + 2) Q) : XJ G d k Y M lv (.int x :: st) pc Q :=
  fun p e R s m args below meth c H locs cells slots A ls hC hH hl => lv_istore hC.2.1 hC.2.2.1 hd hl hn rfl (fun ls' hl' => kk p e R s m args below meth c H locs cells slots A ls' hC hH (lset_has hl'))
theorem x_lstore_n {j : Fin 4} {i : Nat} {x : Int64} (hd : decode Y.2.1 pc = .ok (.lstore_n j, 1)) (hi : (j : Nat) = i) (hn : i + 1 < Y.2.2.1) (kk : XJ G d k Y M (lset2 lv i (.long x)) st (pc + 1) Q) : XJ G d k Y M lv (.long x :: st) pc Q :=
  fun p e R s m args below meth c H locs cells slots A ls hC hH hl => lv_lstore_n hC.2.1 hC.2.2.1 hd hi hl hn rfl (fun ls' hl' => kk p e R s m args below meth c H locs cells slots A ls' hC hH (lset2_has hl'))
theorem x_lstore {i : Nat} {x : Int64} (hd : decode Y.2.1 pc = .ok (.lstore i, 2)) (hn : i + 1 < Y.2.2.1) (kk : XJ G d k Y M (lset2 lv i (.long x)) st (pc + 2) Q) : XJ G d k Y M lv (.long x :: st) pc Q :=
  fun p e R s m args below meth c H locs cells slots A ls hC hH hl => lv_lstore hC.2.1 hC.2.2.1 hd hl hn rfl (fun ls' hl' => kk p e R s m args below meth c H locs cells slots A ls' hC hH (lset2_has hl'))
theorem x_astore_n {j : Fin 4} {i : Nat} {x : Nat} (hd : decode Y.2.1 pc = .ok (.astore_n j, 1)) (hi : (j : Nat) = i) (hn : i < Y.2.2.1) (kk : XJ G d k Y M (lset lv i (.ref x)) st (pc + 1) Q) : XJ G d k Y M lv (.ref x :: st) pc Q :=
  fun p e R s m args below meth c H locs cells slots A ls hC hH hl => lv_astore_n hC.2.1 hC.2.2.1 hd hi hl hn rfl (fun ls' hl' => kk p e R s m args below meth c H locs cells slots A ls' hC hH (lset_has hl'))
theorem x_astore {i : Nat} {x : Nat} (hd : decode Y.2.1 pc = .ok (.astore i, 2)) (hn : i < Y.2.2.1) (kk : XJ G d k Y M (lset lv i (.ref x)) st (pc + 2) Q) : XJ G d k Y M lv (.ref x :: st) pc Q :=
  fun p e R s m args below meth c H locs cells slots A ls hC hH hl => lv_astore hC.2.1 hC.2.2.1 hd hl hn rfl (fun ls' hl' => kk p e R s m args below meth c H locs cells slots A ls' hC hH (lset_has hl'))
theorem x_iinc {i : Nat} {n : Int} {x c : Int32} (hd : decode Y.2.1 pc = .ok (.iinc i n, 3)) (hg : lget lv i = some (.int x)) (hv : Int32.ofInt n = c) (kk : XJ G d k Y M (lset lv i (.int (x + c))) st (pc + 3) Q) : XJ G d k Y M lv st pc Q := by
  subst hv
  intro p e R s m args below meth c H locs cells slots A ls hC hH hl
  obtain ⟨j, hj⟩ := List.getElem?_of_mem (lget_mem hg)
  exact lv_iinc hC.2.1 hC.2.2.1 hd hl hj rfl (lget_lt hl hg) rfl (fun ls' hl' => kk p e R s m args below meth c H locs cells slots A ls' hC hH (lset_has hl'))
theorem x_iadd {x y : Int32} (hd : decode Y.2.1 pc = .ok (.iadd, 1)) (kk : XJ G d k Y M lv (.int (x + y) :: st) (pc + 1) Q) : XJ G d k Y M lv (.int y :: .int x :: st) pc Q :=
  fun p e R s m args below meth c H locs cells slots A ls hC hH hl => lv_iadd hC.2.1 hC.2.2.1 hd (kk p e R s m args below meth c H locs cells slots A ls hC hH hl)
theorem x_isub {x y : Int32} (hd : decode Y.2.1 pc = .ok (.isub, 1)) (kk : XJ G d k Y M lv (.int (x - y) :: st) (pc + 1) Q) : XJ G d k Y M lv (.int y :: .int x :: st) pc Q :=
  fun p e R s m args below meth c H locs cells slots A ls hC hH hl => lv_isub hC.2.1 hC.2.2.1 hd (kk p e R s m args below meth c H locs cells slots A ls hC hH hl)
theorem x_imul {x y : Int32} (hd : decode Y.2.1 pc = .ok (.imul, 1)) (kk : XJ G d k Y M lv (.int (x * y) :: st) (pc + 1) Q) : XJ G d k Y M lv (.int y :: .int x :: st) pc Q :=
  fun p e R s m args below meth c H locs cells slots A ls hC hH hl => lv_imul hC.2.1 hC.2.2.1 hd (kk p e R s m args below meth c H locs cells slots A ls hC hH hl)
theorem x_iand {x y : Int32} (hd : decode Y.2.1 pc = .ok (.iand, 1)) (kk : XJ G d k Y M lv (.int (x &&& y) :: st) (pc + 1) Q) : XJ G d k Y M lv (.int y :: .int x :: st) pc Q :=
  fun p e R s m args below meth c H locs cells slots A ls hC hH hl => lv_iand hC.2.1 hC.2.2.1 hd (kk p e R s m args below meth c H locs cells slots A ls hC hH hl)
theorem x_ior {x y : Int32} (hd : decode Y.2.1 pc = .ok (.ior, 1)) (kk : XJ G d k Y M lv (.int (x ||| y) :: st) (pc + 1) Q) : XJ G d k Y M lv (.int y :: .int x :: st) pc Q :=
  fun p e R s m args below meth c H locs cells slots A ls hC hH hl => lv_ior hC.2.1 hC.2.2.1 hd (kk p e R s m args below meth c H locs cells slots A ls hC hH hl)
theorem x_ixor {x y : Int32} (hd : decode Y.2.1 pc = .ok (.ixor, 1)) (kk : XJ G d k Y M lv (.int (x ^^^ y) :: st) (pc + 1) Q) : XJ G d k Y M lv (.int y :: .int x :: st) pc Q :=
  fun p e R s m args below meth c H locs cells slots A ls hC hH hl => lv_ixor hC.2.1 hC.2.2.1 hd (kk p e R s m args below meth c H locs cells slots A ls hC hH hl)
theorem x_ishl {x y : Int32} (hd : decode Y.2.1 pc = .ok (.ishl, 1)) (kk : XJ G d k Y M lv (.int (x <<< (y &&& 31)) :: st) (pc + 1) Q) : XJ G d k Y M lv (.int y :: .int x :: st) pc Q :=
  fun p e R s m args below meth c H locs cells slots A ls hC hH hl => lv_ishl hC.2.1 hC.2.2.1 hd (kk p e R s m args below meth c H locs cells slots A ls hC hH hl)
theorem x_ishr {x y : Int32} (hd : decode Y.2.1 pc = .ok (.ishr, 1)) (kk : XJ G d k Y M lv (.int (x >>> (y &&& 31)) :: st) (pc + 1) Q) : XJ G d k Y M lv (.int y :: .int x :: st) pc Q :=
  fun p e R s m args below meth c H locs cells slots A ls hC hH hl => lv_ishr hC.2.1 hC.2.2.1 hd (kk p e R s m args below meth c H locs cells slots A ls hC hH hl)
theorem x_iushr {x y : Int32} (hd : decode Y.2.1 pc = .ok (.iushr, 1)) (kk : XJ G d k Y M lv (.int ((x.toUInt32 >>> (y.toUInt32 &&& Int32.toUInt32 31)).toInt32) :: st) (pc + 1) Q) : XJ G d k Y M lv (.int y :: .int x :: st) pc Q :=
  fun p e R s m args below meth c H locs cells slots A ls hC hH hl => lv_iushr hC.2.1 hC.2.2.1 hd rfl (kk p e R s m args below meth c H locs cells slots A ls hC hH hl)
theorem x_idiv {x y : Int32} (hd : decode Y.2.1 pc = .ok (.idiv, 1)) (hne : ¬ y = 0) (kk : XJ G d k Y M lv (.int (x / y) :: st) (pc + 1) Q) : XJ G d k Y M lv (.int y :: .int x :: st) pc Q :=
  fun p e R s m args below meth c H locs cells slots A ls hC hH hl => lv_idiv hC.2.1 hC.2.2.1 hd hne (kk p e R s m args below meth c H locs cells slots A ls hC hH hl)
theorem x_irem {x y : Int32} (hd : decode Y.2.1 pc = .ok (.irem, 1)) (hne : ¬ y = 0) (kk : XJ G d k Y M lv (.int (x - x / y * y) :: st) (pc + 1) Q) : XJ G d k Y M lv (.int y :: .int x :: st) pc Q :=
  fun p e R s m args below meth c H locs cells slots A ls hC hH hl => lv_irem hC.2.1 hC.2.2.1 hd hne (kk p e R s m args below meth c H locs cells slots A ls hC hH hl)
theorem x_ineg {x : Int32} (hd : decode Y.2.1 pc = .ok (.ineg, 1)) (kk : XJ G d k Y M lv (.int (-x) :: st) (pc + 1) Q) : XJ G d k Y M lv (.int x :: st) pc Q :=
  fun p e R s m args below meth c H locs cells slots A ls hC hH hl => lv_ineg hC.2.1 hC.2.2.1 hd (kk p e R s m args below meth c H locs cells slots A ls hC hH hl)
theorem x_ladd {x y : Int64} (hd : decode Y.2.1 pc = .ok (.ladd, 1)) (kk : XJ G d k Y M lv (.long (x + y) :: st) (pc + 1) Q) : XJ G d k Y M lv (.long y :: .long x :: st) pc Q :=
  fun p e R s m args below meth c H locs cells slots A ls hC hH hl => lv_ladd hC.2.1 hC.2.2.1 hd (kk p e R s m args below meth c H locs cells slots A ls hC hH hl)
theorem x_lsub {x y : Int64} (hd : decode Y.2.1 pc = .ok (.lsub, 1)) (kk : XJ G d k Y M lv (.long (x - y) :: st) (pc + 1) Q) : XJ G d k Y M lv (.long y :: .long x :: st) pc Q :=
  fun p e R s m args below meth c H locs cells slots A ls hC hH hl => lv_lsub hC.2.1 hC.2.2.1 hd (kk p e R s m args below meth c H locs cells slots A ls hC hH hl)
theorem x_lmul {x y : Int64} (hd : decode Y.2.1 pc = .ok (.lmul, 1)) (kk : XJ G d k Y M lv (.long (x * y) :: st) (pc + 1) Q) : XJ G d k Y M lv (.long y :: .long x :: st) pc Q :=
  fun p e R s m args below meth c H locs cells slots A ls hC hH hl => lv_lmul hC.2.1 hC.2.2.1 hd (kk p e R s m args below meth c H locs cells slots A ls hC hH hl)
theorem x_land {x y : Int64} (hd : decode Y.2.1 pc = .ok (.land, 1)) (kk : XJ G d k Y M lv (.long (x &&& y) :: st) (pc + 1) Q) : XJ G d k Y M lv (.long y :: .long x :: st) pc Q :=
  fun p e R s m args below meth c H locs cells slots A ls hC hH hl => lv_land hC.2.1 hC.2.2.1 hd (kk p e R s m args below meth c H locs cells slots A ls hC hH hl)
theorem x_lor {x y : Int64} (hd : decode Y.2.1 pc = .ok (.lor, 1)) (kk : XJ G d k Y M lv (.long (x ||| y) :: st) (pc + 1) Q) : XJ G d k Y M lv (.long y :: .long x :: st) pc Q :=
  fun p e R s m args below meth c H locs cells slots A ls hC hH hl => lv_lor hC.2.1 hC.2.2.1 hd (kk p e R s m args below meth c H locs cells slots A ls hC hH hl)
theorem x_ldiv {x y : Int64} (hd : decode Y.2.1 pc = .ok (.ldiv, 1)) (hne : ¬ y = 0) (kk : XJ G d k Y M lv (.long (x / y) :: st) (pc + 1) Q) : XJ G d k Y M lv (.long y :: .long x :: st) pc Q :=
  fun p e R s m args below meth c H locs cells slots A ls hC hH hl => lv_ldiv hC.2.1 hC.2.2.1 hd hne (kk p e R s m args below meth c H locs cells slots A ls hC hH hl)
theorem x_lrem {x y : Int64} (hd : decode Y.2.1 pc = .ok (.lrem, 1)) (hne : ¬ y = 0) (kk : XJ G d k Y M lv (.long (x - x / y * y) :: st) (pc + 1) Q) : XJ G d k Y M lv (.long y :: .long x :: st) pc Q :=
  fun p e R s m args below meth c H locs cells slots A ls hC hH hl => lv_lrem hC.2.1 hC.2.2.1 hd hne (kk p e R s m args below meth c H locs cells slots A ls hC hH hl)
theorem x_lshl {x : Int64} {y : Int32} (hd : decode Y.2.1 pc = .ok (.lshl, 1)) (kk : XJ G d k Y M lv (.long (x <<< (y.toInt64 &&& 63)) :: st) (pc + 1) Q) : XJ G d k Y M lv (.int y :: .long x :: st) pc Q :=
  fun p e R s m args below meth c H locs cells slots A ls hC hH hl => lv_lshl hC.2.1 hC.2.2.1 hd rfl (kk p e R s m args below meth c H locs cells slots A ls hC hH hl)
theorem x_lushr {x : Int64} {y : Int32} (hd : decode Y.2.1 pc = .ok (.lushr, 1)) (kk : XJ G d k Y M lv (.long ((x.toUInt64 >>> (y.toInt64.toUInt64 &&& Int64.toUInt64 63)).toInt64) :: st) (pc + 1) Q) : XJ G d k Y M lv (.int y :: .long x :: st) pc Q :=
  fun p e R s m args below meth c H locs cells slots A ls hC hH hl => lv_lushr hC.2.1 hC.2.2.1 hd rfl (kk p e R s m args below meth c H locs cells slots A ls hC hH hl)
theorem x_lneg {x : Int64} (hd : decode Y.2.1 pc = .ok (.lneg, 1)) (kk : XJ G d k Y M lv (.long (-x) :: st) (pc + 1) Q) : XJ G d k Y M lv (.long x :: st) pc Q :=
  fun p e R s m args below meth c H locs cells slots A ls hC hH hl => lv_lneg hC.2.1 hC.2.2.1 hd (kk p e R s m args below meth c H locs cells slots A ls hC hH hl)
theorem x_lcmp {x y : Int64} (hd : decode Y.2.1 pc = .ok (.lcmp, 1)) (kk : XJ G d k Y M lv (.int (lg_cmp x y) :: st) (pc + 1) Q) : XJ G d k Y M lv (.long y :: .long x :: st) pc Q :=
  fun p e R s m args below meth c H locs cells slots A ls hC hH hl => W.lcmp hC.2.1 hC.2.2.1 hd (kk p e R s m args below meth c H locs cells slots A ls hC hH hl)
theorem x_i2l {x : Int32} (hd : decode Y.2.1 pc = .ok (.i2l, 1)) (kk : XJ G d k Y M lv (.long x.toInt64 :: st) (pc + 1) Q) : XJ G d k Y M lv (.int x :: st) pc Q :=
  fun p e R s m args below meth c H locs cells slots A ls hC hH hl => lv_i2l hC.2.1 hC.2.2.1 hd rfl (kk p e R s m args below meth c H locs cells slots A ls hC hH hl)
theorem x_l2i {x : Int64} (hd : decode Y.2.1 pc = .ok (.l2i, 1)) (kk : XJ G d k Y M lv (.int x.toInt32 :: st) (pc + 1) Q) : XJ G d k Y M lv (.long x :: st) pc Q :=
  fun p e R s m args below meth c H locs cells slots A ls hC hH hl => lv_l2i hC.2.1 hC.2.2.1 hd rfl (kk p e R s m args below meth c H locs cells slots A ls hC hH hl)
theorem x_i2c {x : Int32} (hd : decode Y.2.1 pc = .ok (.i2c, 1)) (kk : XJ G d k Y M lv (.int ((x.toUInt32 % 65536).toInt32) :: st) (pc + 1) Q) : XJ G d k Y M lv (.int x :: st) pc Q :=
  fun p e R s m args below meth c H locs cells slots A ls hC hH hl => lv_i2c hC.2.1 hC.2.2.1 hd rfl (kk p e R s m args below meth c H locs cells slots A ls hC hH hl)
theorem x_i2b {x : Int32} (hd : decode Y.2.1 pc = .ok (.i2b, 1)) (kk : XJ G d k Y M lv (.int x.toInt8.toInt32 :: st) (pc + 1) Q) : XJ G d k Y M lv (.int x :: st) pc Q :=
  fun p e R s m args below meth c H locs cells slots A ls hC hH hl => lv_i2b hC.2.1 hC.2.2.1 hd rfl (kk p e R s m args below meth c H locs cells slots A ls hC hH hl)
theorem x_dup {v : Value} (hd : decode Y.2.1 pc = .ok (.dup, 1)) (hv : v.category = 1) (kk : XJ G d k Y M lv (v :: v :: st) (pc + 1) Q) : XJ G d k Y M lv (v :: st) pc Q :=
  fun p e R s m args below meth c H locs cells slots A ls hC hH hl => lv_dup hC.2.1 hC.2.2.1 hd hv (kk p e R s m args below meth c H locs cells slots A ls hC hH hl)
theorem x_dup_x1 {v w : Value} (hd : decode Y.2.1 pc = .ok (.dup_x1, 1)) (hv : v.category = 1) (hw : w.category = 1) (kk : XJ G d k Y M lv (v :: w :: v :: st) (pc + 1) Q) : XJ G d k Y M lv (v :: w :: st) pc Q :=
  fun p e R s m args below meth c H locs cells slots A ls hC hH hl => lv_dup_x1 hC.2.1 hC.2.2.1 hd hv hw (kk p e R s m args below meth c H locs cells slots A ls hC hH hl)
theorem x_pop {v : Value} (hd : decode Y.2.1 pc = .ok (.pop, 1)) (hv : v.category = 1) (kk : XJ G d k Y M lv st (pc + 1) Q) : XJ G d k Y M lv (v :: st) pc Q :=
  fun p e R s m args below meth c H locs cells slots A ls hC hH hl => lv_pop hC.2.1 hC.2.2.1 hd hv (kk p e R s m args below meth c H locs cells slots A ls hC hH hl)
theorem x_goto {off : Int} {tgt : Nat} (hd : decode Y.2.1 pc = .ok (.goto off, 3)) (ht : (pc : Int) + off = (tgt : Int)) (kk : XJ G d k Y M lv st tgt Q) : XJ G d k Y M lv st pc Q :=
  fun p e R s m args below meth c H locs cells slots A ls hC hH hl => lv_goto hC.2.1 hC.2.2.1 hd ht (kk p e R s m args below meth c H locs cells slots A ls hC hH hl)
theorem x_if_eq {x : Int32} {off : Int} {tgt : Nat} (hd : decode Y.2.1 pc = .ok (.ifCond .eq off, 3)) (ht : (pc : Int) + off = (tgt : Int)) (kt : (x = 0) → XJ G d k Y M lv st tgt Q) (kf : ¬ (x = 0) → XJ G d k Y M lv st (pc + 3) Q) : XJ G d k Y M lv (.int x :: st) pc Q :=
  fun p e R s m args below meth c H locs cells slots A ls hC hH hl => lv_if_eq hC.2.1 hC.2.2.1 hd ht (fun z => kt z p e R s m args below meth c H locs cells slots A ls hC hH hl) (fun z => kf z p e R s m args below meth c H locs cells slots A ls hC hH hl)
theorem x_icmp_eq {x y : Int32} {off : Int} {tgt : Nat} (hd : decode Y.2.1 pc = .ok (.if_icmp .eq off, 3)) (ht : (pc : Int) + off = (tgt : Int)) (kt : (x = y) → XJ G d k Y M lv st tgt Q) (kf : ¬ (x = y) → XJ G d k Y M lv st (pc + 3) Q) : XJ G d k Y M lv (.int y :: .int x :: st) pc Q :=
  fun p e R s m args below meth c H locs cells slots A ls hC hH hl => lv_icmp_eq hC.2.1 hC.2.2.1 hd ht (fun z => kt z p e R s m args below meth c H locs cells slots A ls hC hH hl) (fun z => kf z p e R s m args below meth c H locs cells slots A ls hC hH hl)
theorem x_if_ne {x : Int32} {off : Int} {tgt : Nat} (hd : decode Y.2.1 pc = .ok (.ifCond .ne off, 3)) (ht : (pc : Int) + off = (tgt : Int)) (kt : (¬ x = 0) → XJ G d k Y M lv st tgt Q) (kf : (x = 0) → XJ G d k Y M lv st (pc + 3) Q) : XJ G d k Y M lv (.int x :: st) pc Q :=
  fun p e R s m args below meth c H locs cells slots A ls hC hH hl => lv_if_ne hC.2.1 hC.2.2.1 hd ht (fun z => kt z p e R s m args below meth c H locs cells slots A ls hC hH hl) (fun z => kf z p e R s m args below meth c H locs cells slots A ls hC hH hl)
theorem x_icmp_ne {x y : Int32} {off : Int} {tgt : Nat} (hd : decode Y.2.1 pc = .ok (.if_icmp .ne off, 3)) (ht : (pc : Int) + off = (tgt : Int)) (kt : (¬ x = y) → XJ G d k Y M lv st tgt Q) (kf : (x = y) → XJ G d k Y M lv st (pc + 3) Q) : XJ G d k Y M lv (.int y :: .int x :: st) pc Q :=
  fun p e R s m args below meth c H locs cells slots A ls hC hH hl => lv_icmp_ne hC.2.1 hC.2.2.1 hd ht (fun z => kt z p e R s m args below meth c H locs cells slots A ls hC hH hl) (fun z => kf z p e R s m args below meth c H locs cells slots A ls hC hH hl)
theorem x_if_lt {x : Int32} {off : Int} {tgt : Nat} (hd : decode Y.2.1 pc = .ok (.ifCond .lt off, 3)) (ht : (pc : Int) + off = (tgt : Int)) (kt : (x < 0) → XJ G d k Y M lv st tgt Q) (kf : ¬ (x < 0) → XJ G d k Y M lv st (pc + 3) Q) : XJ G d k Y M lv (.int x :: st) pc Q :=
  fun p e R s m args below meth c H locs cells slots A ls hC hH hl => lv_if_lt hC.2.1 hC.2.2.1 hd ht (fun z => kt z p e R s m args below meth c H locs cells slots A ls hC hH hl) (fun z => kf z p e R s m args below meth c H locs cells slots A ls hC hH hl)
theorem x_icmp_lt {x y : Int32} {off : Int} {tgt : Nat} (hd : decode Y.2.1 pc = .ok (.if_icmp .lt off, 3)) (ht : (pc : Int) + off = (tgt : Int)) (kt : (x < y) → XJ G d k Y M lv st tgt Q) (kf : ¬ (x < y) → XJ G d k Y M lv st (pc + 3) Q) : XJ G d k Y M lv (.int y :: .int x :: st) pc Q :=
  fun p e R s m args below meth c H locs cells slots A ls hC hH hl => lv_icmp_lt hC.2.1 hC.2.2.1 hd ht (fun z => kt z p e R s m args below meth c H locs cells slots A ls hC hH hl) (fun z => kf z p e R s m args below meth c H locs cells slots A ls hC hH hl)
theorem x_if_ge {x : Int32} {off : Int} {tgt : Nat} (hd : decode Y.2.1 pc = .ok (.ifCond .ge off, 3)) (ht : (pc : Int) + off = (tgt : Int)) (kt : (0 ≤ x) → XJ G d k Y M lv st tgt Q) (kf : ¬ (0 ≤ x) → XJ G d k Y M lv st (pc + 3) Q) : XJ G d k Y M lv (.int x :: st) pc Q :=
  fun p e R s m args below meth c H locs cells slots A ls hC hH hl => lv_if_ge hC.2.1 hC.2.2.1 hd ht (fun z => kt z p e R s m args below meth c H locs cells slots A ls hC hH hl) (fun z => kf z p e R s m args below meth c H locs cells slots A ls hC hH hl)
theorem x_icmp_ge {x y : Int32} {off : Int} {tgt : Nat} (hd : decode Y.2.1 pc = .ok (.if_icmp .ge off, 3)) (ht : (pc : Int) + off = (tgt : Int)) (kt : (y ≤ x) → XJ G d k Y M lv st tgt Q) (kf : ¬ (y ≤ x) → XJ G d k Y M lv st (pc + 3) Q) : XJ G d k Y M lv (.int y :: .int x :: st) pc Q :=
  fun p e R s m args below meth c H locs cells slots A ls hC hH hl => lv_icmp_ge hC.2.1 hC.2.2.1 hd ht (fun z => kt z p e R s m args below meth c H locs cells slots A ls hC hH hl) (fun z => kf z p e R s m args below meth c H locs cells slots A ls hC hH hl)
theorem x_if_gt {x : Int32} {off : Int} {tgt : Nat} (hd : decode Y.2.1 pc = .ok (.ifCond .gt off, 3)) (ht : (pc : Int) + off = (tgt : Int)) (kt : (0 < x) → XJ G d k Y M lv st tgt Q) (kf : ¬ (0 < x) → XJ G d k Y M lv st (pc + 3) Q) : XJ G d k Y M lv (.int x :: st) pc Q :=
  fun p e R s m args below meth c H locs cells slots A ls hC hH hl => lv_if_gt hC.2.1 hC.2.2.1 hd ht (fun z => kt z p e R s m args below meth c H locs cells slots A ls hC hH hl) (fun z => kf z p e R s m args below meth c H locs cells slots A ls hC hH hl)
theorem x_icmp_gt {x y : Int32} {off : Int} {tgt : Nat} (hd : decode Y.2.1 pc = .ok (.if_icmp .gt off, 3)) (ht : (pc : Int) + off = (tgt : Int)) (kt : (y < x) → XJ G d k Y M lv st tgt Q) (kf : ¬ (y < x) → XJ G d k Y M lv st (pc + 3) Q) : XJ G d k Y M lv (.int y :: .int x :: st) pc Q :=
  fun p e R s m args below meth c H locs cells slots A ls hC hH hl => lv_icmp_gt hC.2.1 hC.2.2.1 hd ht (fun z => kt z p e R s m args below meth c H locs cells slots A ls hC hH hl) (fun z => kf z p e R s m args below meth c H locs cells slots A ls hC hH hl)
theorem x_if_le {x : Int32} {off : Int} {tgt : Nat} (hd : decode Y.2.1 pc = .ok (.ifCond .le off, 3)) (ht : (pc : Int) + off = (tgt : Int)) (kt : (x ≤ 0) → XJ G d k Y M lv st tgt Q) (kf : ¬ (x ≤ 0) → XJ G d k Y M lv st (pc + 3) Q) : XJ G d k Y M lv (.int x :: st) pc Q :=
  fun p e R s m args below meth c H locs cells slots A ls hC hH hl => lv_if_le hC.2.1 hC.2.2.1 hd ht (fun z => kt z p e R s m args below meth c H locs cells slots A ls hC hH hl) (fun z => kf z p e R s m args below meth c H locs cells slots A ls hC hH hl)
theorem x_icmp_le {x y : Int32} {off : Int} {tgt : Nat} (hd : decode Y.2.1 pc = .ok (.if_icmp .le off, 3)) (ht : (pc : Int) + off = (tgt : Int)) (kt : (x ≤ y) → XJ G d k Y M lv st tgt Q) (kf : ¬ (x ≤ y) → XJ G d k Y M lv st (pc + 3) Q) : XJ G d k Y M lv (.int y :: .int x :: st) pc Q :=
  fun p e R s m args below meth c H locs cells slots A ls hC hH hl => lv_icmp_le hC.2.1 hC.2.2.1 hd ht (fun z => kt z p e R s m args below meth c H locs cells slots A ls hC hH hl) (fun z => kf z p e R s m args below meth c H locs cells slots A ls hC hH hl)
end XR
end
section
/-! ends of a method, the contract out of the body's walk, calls -/
theorem CT.of {G : Gam} {d : Nat} {k : Nat × Nat} {Y : MR} {av : List Value} {M : Mem} {Q : Option Value → Mem → Prop} (hy : plainName Y.1.cls = true) (hn : (lg_sl av).length ≤ Y.2.2.1) (h : XJ G d k Y M (lv_args 0 av) [] 0 Q) : CT G d k Y av M Q := by
  intro sz
  refine Met.ofW (cc := Y.2.1) (maxL := Y.2.2.1) (ret := Y.2.2.2) hy rfl ?_
  intro p e s m args below meth c s₁ B hml hv
  obtain ⟨rfl, hB, hW, hO, hsz, hR⟩ := hv
  have hown : s.vm.findClass Y.1.cls = some m.cls := findClass_of_methodNamed B.named
  have hl := lv_entry av (n := Y.2.2.1) hn
  rw [lg_entry_eq]
  exact h p e (rmX d k) s m av.toArray below meth c s.heap [] 0 0 (AX M sz) _ ⟨hB, B.exec, B.bytes, B.returns, hml, hown, B.notSynchronized, (name_of_methodNamed B.named B.method).1, hW, rfl, rfl, fun q hq => Or.inr (by rw [← hsz]; exact hq), fun q hq => by
      rcases hq with ⟨c, hc⟩ | hq
      · exact (hR q c hc).1
      · exact Nat.le_trans (by rw [← hsz]; exact hO.1) hq, hO⟩ ⟨hR, fun a c hc => Or.inl ⟨c, hc⟩, va_S.rf, by simp [rmX], by simp [rmX]⟩ hl
section XE
variable {G : Gam} {d : Nat} {k : Nat × Nat} {Y : MR} {M : Mem} {lv : Lv} {st : List Value} {pc : Nat} {Q : Option Value → Mem → Prop}
theorem x_ireturn {ty : FieldType} {v : Int32} (hd : decode Y.2.1 pc = .ok (.ireturn, 1)) (hr : Y.2.2.2 = some ty) (hn : narrow ty (.int v) = .int v) (hq : Q (some (.int v)) M) : XJ G d k Y M lv [.int v] pc Q := by
  intro p e R s m args below meth c H locs cells slots A ls hC hH hl
  refine W.widen (k := R.cells) (n := R.slots) (Nat.le_trans (Nat.le_add_right _ _) hH.2.2.2.1) (Nat.le_trans (Nat.le_add_right _ _) hH.2.2.2.2) ?_
  exact W.zret hC.2.1 hC.2.2.1 (hC.2.2.2.1.trans hr) hn (fun t ht _ => ⟨⟨_, M, rfl, hq, by rw [ht]; exact hH.1, hH.2.1⟩, hH.2.2.1.F ht⟩) hH.2.2.1.2.2 hd hC.2.2.2.2.2.2.1
theorem x_lreturn {v : Int64} (hd : decode Y.2.1 pc = .ok (.lreturn, 1)) (hr : Y.2.2.2 = some .long) (hq : Q (some (.long v)) M) : XJ G d k Y M lv [.long v] pc Q := by
  intro p e R s m args below meth c H locs cells slots A ls hC hH hl
  refine W.widen (k := R.cells) (n := R.slots) (Nat.le_trans (Nat.le_add_right _ _) hH.2.2.2.1) (Nat.le_trans (Nat.le_add_right _ _) hH.2.2.2.2) ?_
  exact W.lret hC.2.1 hC.2.2.1 (hC.2.2.2.1.trans hr) (fun t ht _ => ⟨⟨_, M, rfl, hq, by rw [ht]; exact hH.1, hH.2.1⟩, hH.2.2.1.F ht⟩) hH.2.2.1.2.2 hd hC.2.2.2.2.2.2.1
theorem x_return (hd : decode Y.2.1 pc = .ok (.return_, 1)) (hr : Y.2.2.2 = none) (hq : Q none M) : XJ G d k Y M lv [] pc Q := by
  intro p e R s m args below meth c H locs cells slots A ls hC hH hl
  refine W.widen (k := R.cells) (n := R.slots) (Nat.le_trans (Nat.le_add_right _ _) hH.2.2.2.1) (Nat.le_trans (Nat.le_add_right _ _) hH.2.2.2.2) ?_
  exact W.vret hC.2.1 hC.2.2.1 (hC.2.2.2.1.trans hr) (fun t ht _ => ⟨⟨_, M, rfl, hq, by rw [ht]; exact hH.1, hH.2.1⟩, hH.2.2.1.F ht⟩) hH.2.2.1.2.2 hd hC.2.2.2.2.2.2.1
theorem x_areturn {ty : FieldType} {v : Value} (hd : decode Y.2.1 pc = .ok (.areturn, 1)) (hr : Y.2.2.2 = some ty) (hrt : (∃ n, ty = .object n) ∨ ∃ t, ty = .array t) (hv : v = .null ∨ ∃ a, v = .ref a) (hq : Q (some v) M) : XJ G d k Y M lv [v] pc Q := by
  intro p e R s m args below meth c H locs cells slots A ls hC hH hl
  refine W.widen (k := R.cells) (n := R.slots) (Nat.le_trans (Nat.le_add_right _ _) hH.2.2.2.1) (Nat.le_trans (Nat.le_add_right _ _) hH.2.2.2.2) ?_
  exact W.aret hC.2.1 hC.2.2.1 (hC.2.2.2.1.trans hr) hrt hv (fun t ht _ => ⟨⟨_, M, rfl, hq, by rw [ht]; exact hH.1, hH.2.1⟩, hH.2.2.1.F ht⟩) hH.2.2.1.2.2 hd hC.2.2.2.2.2.2.1
/-- fewer locals -/
theorem x_loc (l1 : Lv) (h : lle l1 lv) (kk : XJ G d k Y M l1 st pc Q) : XJ G d k Y M lv st pc Q :=
  fun p e R s m args below meth c H locs cells slots A ls hC hH hl => kk p e R s m args below meth c H locs cells slots A ls hC hH (lle_has h hl)
/-- fewer cells in sight -/
theorem x_mem {M1 : Mem} (h : ∀ a c, M1 a = some c → M a = some c) (kk : XJ G d k Y M1 lv st pc Q) : XJ G d k Y M lv st pc Q :=
  fun p e R s m args below meth c H locs cells slots A ls hC hH hl => kk p e R s m args below meth c H locs cells slots A ls hC ⟨fun a c z => hH.1 a c (h a c z), fun a c z => hH.2.1 a c (h a c z), hH.2.2⟩ hl
/-- less room -/
theorem x_room {k1 : Nat × Nat} (h1 : k1.1 ≤ k.1) (h2 : k1.2 ≤ k.2) (kk : XJ G d k1 Y M lv st pc Q) : XJ G d k Y M lv st pc Q :=
  fun p e R s m args below meth c H locs cells slots A ls hC hH hl => kk p e R s m args below meth c H locs cells slots A ls hC ⟨hH.1, hH.2.1, hH.2.2.1, Nat.le_trans (Nat.add_le_add_left h1 _) hH.2.2.2.1, Nat.le_trans (Nat.add_le_add_left h2 _) hH.2.2.2.2⟩ hl
end XE
/-! calls -/
def rpush (r : Option Value) (st : List Value) : List Value := match r with
  | none => st
  | some v => v :: st
theorem rpush_eq (r : Option Value) (st : List Value) : r.toList ++ st = rpush r st := by cases r <;> rfl
def catS : List Value → Nat
  | [] => 0
  | v :: t => v.category + catS t
theorem catS_le : ∀ {st : List Value}, (st.map fun v => v.category).sum = catS st
  | [] => rfl
  | v :: t => by rw [List.map_cons, List.sum_cons, catS_le]; rfl
theorem catS_8 {st : List Value} (h : Nat.ble (catS st) 8 = true) : (st.map fun v => v.category).sum ≤ 8 := by rw [catS_le]; exact Nat.le_of_ble_eq_true h
def LkC (Y2 : MR) (n : Nat) : Prop := Cond.code Y2.1 Y2.2.1 Y2.2.2.1 Y2.2.2.2 ∈ lw_tbl ∧ Cond.initialized Y2.1.cls ∈ lw_tbl ∧ (Y2.1.cls ≠ "java/lang/invoke/MethodHandle" ∧ Y2.1.cls ≠ "java/lang/invoke/VarHandle") ∧ (parseMethodDescriptor Y2.1.desc).map (fun d => d.parameters.length) = some n ∧ Y2.2.2.1 ≤ 45
def LkS (own : String) (idx : Nat) (Y2 : MR) (n : Nat) : Prop := LkC Y2 n ∧ Cond.static Y2.1 ∈ lw_tbl ∧ Cond.methodLink own idx Y2.1 ∈ lw_tbl
def LkV (own : String) (idx : Nat) (Y2 : MR) (n : Nat) : Prop := LkC Y2 n ∧ Cond.instanceMethod Y2.1 ∈ lw_tbl ∧ Cond.selects Y2.1.cls Y2.1 Y2.1 ∈ lw_tbl ∧ Cond.methodLink own idx Y2.1 ∈ lw_tbl
def LkI (own : String) (idx : Nat) (Y2 : MR) (n : Nat) : Prop := LkC Y2 n ∧ Cond.instanceMethod Y2.1 ∈ lw_tbl ∧ Y2.1.name = "<init>" ∧ Cond.methodLink own idx Y2.1 ∈ lw_tbl
def LkSN (own : String) (idx : Nat) (Y2 : MR) (n : Nat) : Prop := LkC Y2 n ∧ Cond.static Y2.1 ∈ lw_tbl ∧ ∃ host, Cond.methodLinkNest own idx Y2.1 host ∈ lw_tbl
def LkIN (own : String) (idx : Nat) (Y2 : MR) (n : Nat) : Prop := LkC Y2 n ∧ Cond.instanceMethod Y2.1 ∈ lw_tbl ∧ Y2.1.name = "<init>" ∧ ∃ host, Cond.methodLinkNest own idx Y2.1 host ∈ lw_tbl
theorem gw_code {y : MethodName} {b : ByteArray} {n : Nat} {r : Option FieldType} : goodWord (.code y b n r) = true := rfl
section XK
variable {G : Gam} {d : Nat} {k : Nat × Nat} {Y : MR} {M : Mem} {lv : Lv} {pc : Nat} {Q : Option Value → Mem → Prop} {rest : List Value} {mc ms : Nat}
theorem x_ofRun {st0 : List Value} {a : Array Value} {p : Program} {e : Env} {R : Room} {s : State} {m : MethodId} {args : Array Value} {below : List Frame} {meth : Method} {c : Code} {H : Heap} {locs : List Loc} {cells slots : Nat} {A : Nat → Prop} {ls : Array Slot}
    (hC : XC G d Y p R s m meth c A) (hH : XH G k M R s A H locs cells slots) (hl : lv_has ls Y.2.2.1 lv) (hk : mc ≤ k.1 ∧ ms ≤ k.2)
    (hr : va_Run p G.1 e R s m args below meth c H locs cells slots mc ms (F0 m pc ls st0) rest (QX G (AX M H.size) (fun r M' => XJ G d (k.1 - mc, k.2 - ms) Y M' lv (rpush r rest) (pc + 3) Q) a) (AX M H.size)) :
    W p G.1 e R s m args below meth c H locs cells slots (MQ below (QX G A Q) args s R.cells R.slots A) (F0 m pc ls st0) := by
  have hA : ∀ q, AX M H.size q → A q := fun q hq => by
    rcases hq with ⟨c, hc⟩ | hq
    · exact hH.2.1 q c hc
    · exact hC.2.2.2.2.2.2.2.2.2.2.2.1 q (Nat.le_trans hH.2.2.1.1 hq)
  intro T hT X
  obtain ⟨v, st₀, t, T', L, h0, X', hL, e1, e2, ⟨⟨r, M', hr, hq, hRel, hdom⟩, hF⟩, hgo⟩ := hr T hT X
  cases hr
  have hz : H.size ≤ T'.heap.size := by rw [e1, ← h0]; exact hF.1
  rw [← rpush_eq] at hq
  obtain ⟨t2, a1, b1⟩ := hq p e R s m args below meth c T'.heap (locs ++ L) (cells + mc) (slots + ms) A ls hC ⟨by rw [e1]; exact hRel, fun a c z => hA a (hdom a c z), ⟨Nat.le_trans hH.2.2.1.1 hz, fun q h1 h2 => by
      have h3 := hF.2 q (by rw [h0]; exact Nat.lt_of_lt_of_le h1 hH.2.2.1.1) (fun z => h2 (hA q z))
      rw [e1, h3, h0]
      exact hH.2.2.1.2.1 q h1 h2, fun q hq => by
      rcases List.mem_append.mp hq with h | h
      · exact hH.2.2.1.2.2 q h
      · exact hA _ (hL q h)⟩, (by have := hH.2.2.2.1; show cells + mc + (k.1 - mc) ≤ _; omega), (by have := hH.2.2.2.2; show slots + ms + (k.2 - ms) ≤ _; omega)⟩ hl T' rfl X'
  exact ⟨t2, hgo t2 a1, b1⟩
theorem x_pre {p : Program} {R : Room} {s : State} {m : MethodId} {meth : Method} {c : Code} {A : Nat → Prop} {H : Heap} {locs : List Loc} {cells slots : Nat} (hC : XC G d Y p R s m meth c A) (hH : XH G k M R s A H locs cells slots) (As : List Value) :
    PreS s H (va_Pc As (PX G M H.size)) As :=
  ⟨fun _ _ _ _ h => ⟨h.1, h.2⟩, fun U hU hW => ⟨rfl, hC.1, State.WarmedH.trans hC.2.2.2.2.2.2.2.2.1 hW, by rw [hU]; exact oldX hC.2.2.2.2.2.2.2.2.2.2.2.2.2 hH.2.2.1 hC.2.2.2.2.2.2.2.2.2.2.2.2.1, by rw [hU], by rw [hU]; exact hH.1⟩⟩
theorem x_ws {s : State} {Y2 : MR} {n : Nat} (hL : LkC Y2 n) (hB : BaseOK G) (hW : G.2.1.WarmedH s.vm) : ∀ w ∈ ([.code Y2.1 Y2.2.1 Y2.2.2.1 Y2.2.2.2] : List Cond), ∀ (a' : Array Value) (U : State), s.WarmedH U.vm → w.before a' U = true := by
  intro w hw a' U hU
  rw [List.mem_singleton.mp hw]
  exact tb_good hB hL.1 gw_code (State.WarmedH.trans hW hU)
theorem x_cb {p : Program} {R : Room} {s : State} {args : Array Value} {m : MethodId} {meth : Method} {c : Code} {A : Nat → Prop} {Y2 : MR} {n idx : Nat} (hC : XC G (d + 1) Y p R s m meth c A) (hL : LkC Y2 n) (hl : Cond.methodLink Y.1.cls idx Y2.1 ∈ lw_tbl) :
    CallB R s args Y.1.cls idx Y2.1 Y2.2.1 Y2.2.2.1 Y2.2.2.2 [.code Y2.1 Y2.2.1 Y2.2.2.1 Y2.2.2.2] (rmX d (mc, ms)) mc ms n := by
  obtain ⟨hB, -, -, -, -, -, -, -, hW, hfr, hlo, -⟩ := hC
  refine ⟨rfl, rfl, by rw [hfr]; exact Nat.le_refl _, ?_, x_ws hL hB hW, List.mem_singleton.mpr rfl, tb_good hB hL.1 gw_code hW, tb_good hB hL.2.1 rfl hW, hL.2.2.1, fun sig h => ?_, tb_good hB hl rfl hW⟩
  · rw [hlo]; have := hL.2.2.2.2; show 8 + (Y2.2.2.1 + 11) + 64 * d ≤ 64 * (d + 1); omega
  · have h2 := hL.2.2.2.1
    rw [h] at h2
    exact (Option.some.inj h2).symm
theorem x_cn {p : Program} {R : Room} {s : State} {args : Array Value} {m : MethodId} {meth : Method} {c : Code} {A : Nat → Prop} {Y2 : MR} {n idx : Nat} {host : String} (hC : XC G (d + 1) Y p R s m meth c A) (hL : LkC Y2 n) (hl : Cond.methodLinkNest Y.1.cls idx Y2.1 host ∈ lw_tbl) :
    va_CN R s args Y.1.cls idx Y2.1 host Y2.2.1 Y2.2.2.1 Y2.2.2.2 [.code Y2.1 Y2.2.1 Y2.2.2.1 Y2.2.2.2] (rmX d (mc, ms)) mc ms n := by
  obtain ⟨hB, -, -, -, -, -, -, -, hW, hfr, hlo, -⟩ := hC
  refine ⟨⟨rfl, rfl, by rw [hfr]; exact Nat.le_refl _, ?_, x_ws hL hB hW, List.mem_singleton.mpr rfl⟩, tb_good hB hL.1 gw_code hW, tb_good hB hL.2.1 rfl hW, hL.2.2.1, fun sig h => ?_, va_Nw.use rfl (tb_nestM hB hl hW)⟩
  · rw [hlo]; have := hL.2.2.2.2; show 8 + (Y2.2.2.1 + 11) + 64 * d ≤ 64 * (d + 1); omega
  · have h2 := hL.2.2.2.1
    rw [h] at h2
    exact (Option.some.inj h2).symm
theorem x_callS {Y2 : MR} {n idx : Nat} (As : List Value) (hd : decode Y.2.1 pc = .ok (.invokestatic idx, 3)) (hL : LkS Y.1.cls idx Y2 n) (hn : As.length = n) (hs : (rest.map fun v => v.category).sum ≤ 8) (hk : mc ≤ k.1 ∧ ms ≤ k.2) {st0 : List Value} (he : st0 = As.reverse ++ rest)
    (hM : CT G d (mc, ms) Y2 As M (fun r M' => XJ G (d + 1) (k.1 - mc, k.2 - ms) Y M' lv (rpush r rest) (pc + 3) Q)) : XJ G (d + 1) k Y M lv st0 pc Q := by
  intro p e R s m args below meth c H locs cells slots A ls hC hH hl
  refine x_ofRun (rest := rest) hC hH hl hk (a := As.toArray) ?_
  exact va_runS (As := As) (rest := rest) ⟨hC.2.1, hC.2.2.1, hC.2.2.2.2.1, hC.2.2.2.2.2.1, fun w hw => absurd hw List.not_mem_nil⟩ (Ts := []) (hM H.size) ⟨x_cb hC hL.1 hL.2.2, tb_good hC.1 hL.2.1 rfl hC.2.2.2.2.2.2.2.2.1⟩ (x_pre hC hH As) rfl hn hl.1 he (lv_room hs) hd ⟨Nat.le_trans (Nat.add_le_add_left hk.1 _) hH.2.2.2.1, Nat.le_trans (Nat.add_le_add_left hk.2 _) hH.2.2.2.2⟩
theorem x_callSN {Y2 : MR} {n idx : Nat} (As : List Value) (hd : decode Y.2.1 pc = .ok (.invokestatic idx, 3)) (hL : LkSN Y.1.cls idx Y2 n) (hn : As.length = n) (hs : (rest.map fun v => v.category).sum ≤ 8) (hk : mc ≤ k.1 ∧ ms ≤ k.2) {st0 : List Value} (he : st0 = As.reverse ++ rest)
    (hM : CT G d (mc, ms) Y2 As M (fun r M' => XJ G (d + 1) (k.1 - mc, k.2 - ms) Y M' lv (rpush r rest) (pc + 3) Q)) : XJ G (d + 1) k Y M lv st0 pc Q := by
  intro p e R s m args below meth c H locs cells slots A ls hC hH hl
  refine x_ofRun (rest := rest) hC hH hl hk (a := As.toArray) ?_
  obtain ⟨host, hh⟩ := hL.2.2
  exact va_runSN (As := As) (rest := rest) ⟨hC.2.1, hC.2.2.1, hC.2.2.2.2.1, hC.2.2.2.2.2.1, fun w hw => absurd hw List.not_mem_nil⟩ (Ts := []) (hM H.size) ⟨x_cn hC hL.1 hh, tb_good hC.1 hL.2.1 rfl hC.2.2.2.2.2.2.2.2.1, trivial⟩ (x_pre hC hH As) rfl hn hl.1 he (lv_room hs) hd ⟨Nat.le_trans (Nat.add_le_add_left hk.1 _) hH.2.2.2.1, Nat.le_trans (Nat.add_le_add_left hk.2 _) hH.2.2.2.2⟩
theorem cAt_recv {D : va_G} {tA : Nat → ClassId} {a ci n : Nat} {f : Nat → Value} {H : Heap} {s : State} {q : vw_C} (h : cAt D tA a (ci, n, f) H) (hq : vwCl[ci]? = some q) (hK : va_K D vwCl [] s) : ∃ cell : Cell, H[a]? = some cell ∧ cell.vm.isStatics = false ∧ s.vm.findClass q.1 = some cell.cls := by
  rcases h with ⟨-, q', h1, -, cell, g1, g2, g3, -⟩ | ⟨h1, -⟩
  · cases h1.symm.trans hq
    exact ⟨cell, g1, by rw [g3]; rfl, by rw [g2]; exact (hK.1 ci q hq).2.1⟩
  · have : ci < 14 := (List.getElem?_eq_some_iff.mp hq).1
    exact absurd h1 (by show ¬ 100 ≤ ci; omega)
theorem x_callV {Y2 : MR} {n idx ci sz b : Nat} {f : Nat → Value} {q : vw_C} (As : List Value) (hd : decode Y.2.1 pc = .ok (.invokevirtual idx, 3)) (hL : LkV Y.1.cls idx Y2 n) (hb : M b = some (ci, sz, f)) (hq : vwCl[ci]? = some q) (hqc : q.1 = Y2.1.cls) (hn : As.length = n) (hs : (rest.map fun v => v.category).sum ≤ 8) (hk : mc ≤ k.1 ∧ ms ≤ k.2) {st0 : List Value} (he : st0 = As.reverse ++ .ref b :: rest)
    (hM : CT G d (mc, ms) Y2 (.ref b :: As) M (fun r M' => XJ G (d + 1) (k.1 - mc, k.2 - ms) Y M' lv (rpush r rest) (pc + 3) Q)) : XJ G (d + 1) k Y M lv st0 pc Q := by
  intro p e R s m args below meth c H locs cells slots A ls hC hH hl
  have hW := hC.2.2.2.2.2.2.2.2.1
  refine x_ofRun (rest := rest) hC hH hl hk (a := (Value.ref b :: As).toArray) ?_
  have hp := x_pre hC hH (.ref b :: As)
  have hrc := cAt_recv (hH.1 b _ hb).2 hq (bs_K hC.1 hW)
  rw [hqc] at hrc
  exact va_runV (As := As) (rest := rest) (b := b) ⟨hC.2.1, hC.2.2.1, hC.2.2.2.2.1, hC.2.2.2.2.2.1, fun w hw => absurd hw List.not_mem_nil⟩ (Ts := []) (hM H.size) ⟨x_cb hC hL.1 hL.2.2.2, tb_good hC.1 hL.2.1 rfl hW, tb_good hC.1 hL.2.2.1 rfl hW⟩ ⟨hp.1, hrc, hp.2⟩ rfl hn hl.1 he (lv_room hs) hd ⟨Nat.le_trans (Nat.add_le_add_left hk.1 _) hH.2.2.2.1, Nat.le_trans (Nat.add_le_add_left hk.2 _) hH.2.2.2.2⟩
theorem x_callI {Y2 : MR} {n idx b : Nat} (As : List Value) (hd : decode Y.2.1 pc = .ok (.invokespecial idx, 3)) (hL : LkI Y.1.cls idx Y2 n) (hr : Y2.2.2.2 = none) (hn : As.length = n) (hs : (rest.map fun v => v.category).sum ≤ 8) (hk : mc ≤ k.1 ∧ ms ≤ k.2) {st0 : List Value} (he : st0 = As.reverse ++ .ref b :: rest)
    (hM : CT G d (mc, ms) Y2 (.ref b :: As) M (fun r M' => XJ G (d + 1) (k.1 - mc, k.2 - ms) Y M' lv (rpush r rest) (pc + 3) Q)) : XJ G (d + 1) k Y M lv st0 pc Q := by
  obtain ⟨y, cc, ml, rt⟩ := Y2
  cases hr
  intro p e R s m args below meth c H locs cells slots A ls hC hH hl
  have hW := hC.2.2.2.2.2.2.2.2.1
  refine x_ofRun (rest := rest) hC hH hl hk (a := (Value.ref b :: As).toArray) ?_
  exact va_runI (As := As) (rest := rest) (b := b) ⟨hC.2.1, hC.2.2.1, hC.2.2.2.2.1, hC.2.2.2.2.2.1, fun w hw => absurd hw List.not_mem_nil⟩ (Ts := []) (hM H.size) ⟨x_cb hC hL.1 hL.2.2.2, hL.2.2.1, tb_good hC.1 hL.2.1 rfl hW⟩ (x_pre hC hH (.ref b :: As)) rfl hn hl.1 he (lv_room hs) hd ⟨Nat.le_trans (Nat.add_le_add_left hk.1 _) hH.2.2.2.1, Nat.le_trans (Nat.add_le_add_left hk.2 _) hH.2.2.2.2⟩
theorem x_callIN {Y2 : MR} {n idx b : Nat} (As : List Value) (hd : decode Y.2.1 pc = .ok (.invokespecial idx, 3)) (hL : LkIN Y.1.cls idx Y2 n) (hr : Y2.2.2.2 = none) (hn : As.length = n) (hs : (rest.map fun v => v.category).sum ≤ 8) (hk : mc ≤ k.1 ∧ ms ≤ k.2) {st0 : List Value} (he : st0 = As.reverse ++ .ref b :: rest)
    (hM : CT G d (mc, ms) Y2 (.ref b :: As) M (fun r M' => XJ G (d + 1) (k.1 - mc, k.2 - ms) Y M' lv (rpush r rest) (pc + 3) Q)) : XJ G (d + 1) k Y M lv st0 pc Q := by
  obtain ⟨y, cc, ml, rt⟩ := Y2
  cases hr
  intro p e R s m args below meth c H locs cells slots A ls hC hH hl
  have hW := hC.2.2.2.2.2.2.2.2.1
  refine x_ofRun (rest := rest) hC hH hl hk (a := (Value.ref b :: As).toArray) ?_
  obtain ⟨host, hh⟩ := hL.2.2.2
  exact va_runIN (As := As) (rest := rest) (b := b) ⟨hC.2.1, hC.2.2.1, hC.2.2.2.2.1, hC.2.2.2.2.2.1, fun w hw => absurd hw List.not_mem_nil⟩ (Ts := []) (hM H.size) ⟨x_cn hC hL.1 hh, hL.2.2.1, tb_good hC.1 hL.2.1 rfl hW⟩ (x_pre hC hH (.ref b :: As)) rfl hn hl.1 he (lv_room hs) hd ⟨Nat.le_trans (Nat.add_le_add_left hk.1 _) hH.2.2.2.1, Nat.le_trans (Nat.add_le_add_left hk.2 _) hH.2.2.2.2⟩
end XK
/-- less is asked of the end -/
theorem CT.imp {G : Gam} {d : Nat} {k : Nat × Nat} {Y : MR} {av : List Value} {M : Mem} {Q Q' : Option Value → Mem → Prop} (h : CT G d k Y av M Q) (hq : ∀ r M', Q r M' → Q' r M') : CT G d k Y av M Q' := by
  intro sz
  refine MetFree.mono (h sz) (fun a s z => z) (fun _ _ _ _ _ z => z) (fun a s o t _ z => ?_)
  obtain ⟨⟨⟨r, M', h1, h2, h3⟩, h4⟩, h5⟩ := z
  exact ⟨⟨⟨r, M', h1, hq r M' h2, h3⟩, h4⟩, h5⟩
section XZ
variable {G : Gam} {d : Nat} {k : Nat × Nat} {Y : MR} {M : Mem} {lv : Lv} {pc : Nat} {Q : Option Value → Mem → Prop} {rest : List Value}
theorem x_cS0 {Y2 : MR} {idx : Nat} (hd : decode Y.2.1 pc = .ok (.invokestatic idx, 3)) (hL : LkS Y.1.cls idx Y2 0) (hs : Nat.ble (catS rest) 8 = true) (hM : CT G d (0, 0) Y2 [] M (fun r M' => XJ G (d + 1) k Y M' lv (rpush r rest) (pc + 3) Q)) : XJ G (d + 1) k Y M lv rest pc Q :=
  x_callS [] hd hL rfl (catS_8 hs) ⟨Nat.zero_le _, Nat.zero_le _⟩ rfl hM
theorem x_rS0 {Y2 : MR} {idx mc ms : Nat} (hd : decode Y.2.1 pc = .ok (.invokestatic idx, 3)) (hL : LkS Y.1.cls idx Y2 0) (hs : Nat.ble (catS rest) 8 = true) (hk : mc ≤ k.1 ∧ ms ≤ k.2) (hM : CT G d (mc, ms) Y2 [] M (fun r M' => XJ G (d + 1) (k.1 - mc, k.2 - ms) Y M' lv (rpush r rest) (pc + 3) Q)) : XJ G (d + 1) k Y M lv rest pc Q :=
  x_callS [] hd hL rfl (catS_8 hs) hk rfl hM
theorem x_cSN0 {Y2 : MR} {idx : Nat} (hd : decode Y.2.1 pc = .ok (.invokestatic idx, 3)) (hL : LkSN Y.1.cls idx Y2 0) (hs : Nat.ble (catS rest) 8 = true) (hM : CT G d (0, 0) Y2 [] M (fun r M' => XJ G (d + 1) k Y M' lv (rpush r rest) (pc + 3) Q)) : XJ G (d + 1) k Y M lv rest pc Q :=
  x_callSN [] hd hL rfl (catS_8 hs) ⟨Nat.zero_le _, Nat.zero_le _⟩ rfl hM
theorem x_rSN0 {Y2 : MR} {idx mc ms : Nat} (hd : decode Y.2.1 pc = .ok (.invokestatic idx, 3)) (hL : LkSN Y.1.cls idx Y2 0) (hs : Nat.ble (catS rest) 8 = true) (hk : mc ≤ k.1 ∧ ms ≤ k.2) (hM : CT G d (mc, ms) Y2 [] M (fun r M' => XJ G (d + 1) (k.1 - mc, k.2 - ms) Y M' lv (rpush r rest) (pc + 3) Q)) : XJ G (d + 1) k Y M lv rest pc Q :=
  x_callSN [] hd hL rfl (catS_8 hs) hk rfl hM
theorem x_cV0 {Y2 : MR} {idx : Nat} {b : Nat} {ci sz : Nat} {f : Nat → Value} {q : vw_C} (hd : decode Y.2.1 pc = .ok (.invokevirtual idx, 3)) (hL : LkV Y.1.cls idx Y2 0) (hb : M b = some (ci, sz, f)) (hq : vwCl[ci]? = some q) (hqc : q.1 = Y2.1.cls) (hs : Nat.ble (catS rest) 8 = true) (hM : CT G d (0, 0) Y2 (.ref b :: []) M (fun r M' => XJ G (d + 1) k Y M' lv (rpush r rest) (pc + 3) Q)) : XJ G (d + 1) k Y M lv (.ref b :: rest) pc Q :=
  x_callV [] hd hL hb hq hqc rfl (catS_8 hs) ⟨Nat.zero_le _, Nat.zero_le _⟩ rfl hM
theorem x_rV0 {Y2 : MR} {idx mc ms : Nat} {b : Nat} {ci sz : Nat} {f : Nat → Value} {q : vw_C} (hd : decode Y.2.1 pc = .ok (.invokevirtual idx, 3)) (hL : LkV Y.1.cls idx Y2 0) (hb : M b = some (ci, sz, f)) (hq : vwCl[ci]? = some q) (hqc : q.1 = Y2.1.cls) (hs : Nat.ble (catS rest) 8 = true) (hk : mc ≤ k.1 ∧ ms ≤ k.2) (hM : CT G d (mc, ms) Y2 (.ref b :: []) M (fun r M' => XJ G (d + 1) (k.1 - mc, k.2 - ms) Y M' lv (rpush r rest) (pc + 3) Q)) : XJ G (d + 1) k Y M lv (.ref b :: rest) pc Q :=
  x_callV [] hd hL hb hq hqc rfl (catS_8 hs) hk rfl hM
theorem x_cI0 {Y2 : MR} {idx : Nat} {b : Nat} (hd : decode Y.2.1 pc = .ok (.invokespecial idx, 3)) (hL : LkI Y.1.cls idx Y2 0) (hr : Y2.2.2.2 = none) (hs : Nat.ble (catS rest) 8 = true) (hM : CT G d (0, 0) Y2 (.ref b :: []) M (fun r M' => XJ G (d + 1) k Y M' lv (rpush r rest) (pc + 3) Q)) : XJ G (d + 1) k Y M lv (.ref b :: rest) pc Q :=
  x_callI [] hd hL hr rfl (catS_8 hs) ⟨Nat.zero_le _, Nat.zero_le _⟩ rfl hM
theorem x_rI0 {Y2 : MR} {idx mc ms : Nat} {b : Nat} (hd : decode Y.2.1 pc = .ok (.invokespecial idx, 3)) (hL : LkI Y.1.cls idx Y2 0) (hr : Y2.2.2.2 = none) (hs : Nat.ble (catS rest) 8 = true) (hk : mc ≤ k.1 ∧ ms ≤ k.2) (hM : CT G d (mc, ms) Y2 (.ref b :: []) M (fun r M' => XJ G (d + 1) (k.1 - mc, k.2 - ms) Y M' lv (rpush r rest) (pc + 3) Q)) : XJ G (d + 1) k Y M lv (.ref b :: rest) pc Q :=
  x_callI [] hd hL hr rfl (catS_8 hs) hk rfl hM
theorem x_cIN0 {Y2 : MR} {idx : Nat} {b : Nat} (hd : decode Y.2.1 pc = .ok (.invokespecial idx, 3)) (hL : LkIN Y.1.cls idx Y2 0) (hr : Y2.2.2.2 = none) (hs : Nat.ble (catS rest) 8 = true) (hM : CT G d (0, 0) Y2 (.ref b :: []) M (fun r M' => XJ G (d + 1) k Y M' lv (rpush r rest) (pc + 3) Q)) : XJ G (d + 1) k Y M lv (.ref b :: rest) pc Q :=
  x_callIN [] hd hL hr rfl (catS_8 hs) ⟨Nat.zero_le _, Nat.zero_le _⟩ rfl hM
theorem x_rIN0 {Y2 : MR} {idx mc ms : Nat} {b : Nat} (hd : decode Y.2.1 pc = .ok (.invokespecial idx, 3)) (hL : LkIN Y.1.cls idx Y2 0) (hr : Y2.2.2.2 = none) (hs : Nat.ble (catS rest) 8 = true) (hk : mc ≤ k.1 ∧ ms ≤ k.2) (hM : CT G d (mc, ms) Y2 (.ref b :: []) M (fun r M' => XJ G (d + 1) (k.1 - mc, k.2 - ms) Y M' lv (rpush r rest) (pc + 3) Q)) : XJ G (d + 1) k Y M lv (.ref b :: rest) pc Q :=
  x_callIN [] hd hL hr rfl (catS_8 hs) hk rfl hM
theorem x_cS1 {Y2 : MR} {idx : Nat} {a1 : Value} (hd : decode Y.2.1 pc = .ok (.invokestatic idx, 3)) (hL : LkS Y.1.cls idx Y2 1) (hs : Nat.ble (catS rest) 8 = true) (hM : CT G d (0, 0) Y2 [a1] M (fun r M' => XJ G (d + 1) k Y M' lv (rpush r rest) (pc + 3) Q)) : XJ G (d + 1) k Y M lv (a1 :: rest) pc Q :=
  x_callS [a1] hd hL rfl (catS_8 hs) ⟨Nat.zero_le _, Nat.zero_le _⟩ rfl hM
theorem x_rS1 {Y2 : MR} {idx mc ms : Nat} {a1 : Value} (hd : decode Y.2.1 pc = .ok (.invokestatic idx, 3)) (hL : LkS Y.1.cls idx Y2 1) (hs : Nat.ble (catS rest) 8 = true) (hk : mc ≤ k.1 ∧ ms ≤ k.2) (hM : CT G d (mc, ms) Y2 [a1] M (fun r M' => XJ G (d + 1) (k.1 - mc, k.2 - ms) Y M' lv (rpush r rest) (pc + 3) Q)) : XJ G (d + 1) k Y M lv (a1 :: rest) pc Q :=
  x_callS [a1] hd hL rfl (catS_8 hs) hk rfl hM
theorem x_cSN1 {Y2 : MR} {idx : Nat} {a1 : Value} (hd : decode Y.2.1 pc = .ok (.invokestatic idx, 3)) (hL : LkSN Y.1.cls idx Y2 1) (hs : Nat.ble (catS rest) 8 = true) (hM : CT G d (0, 0) Y2 [a1] M (fun r M' => XJ G (d + 1) k Y M' lv (rpush r rest) (pc + 3) Q)) : XJ G (d + 1) k Y M lv (a1 :: rest) pc Q :=
  x_callSN [a1] hd hL rfl (catS_8 hs) ⟨Nat.zero_le _, Nat.zero_le _⟩ rfl hM
theorem x_rSN1 {Y2 : MR} {idx mc ms : Nat} {a1 : Value} (hd : decode Y.2.1 pc = .ok (.invokestatic idx, 3)) (hL : LkSN Y.1.cls idx Y2 1) (hs : Nat.ble (catS rest) 8 = true) (hk : mc ≤ k.1 ∧ ms ≤ k.2) (hM : CT G d (mc, ms) Y2 [a1] M (fun r M' => XJ G (d + 1) (k.1 - mc, k.2 - ms) Y M' lv (rpush r rest) (pc + 3) Q)) : XJ G (d + 1) k Y M lv (a1 :: rest) pc Q :=
  x_callSN [a1] hd hL rfl (catS_8 hs) hk rfl hM
theorem x_cV1 {Y2 : MR} {idx : Nat} {a1 : Value} {b : Nat} {ci sz : Nat} {f : Nat → Value} {q : vw_C} (hd : decode Y.2.1 pc = .ok (.invokevirtual idx, 3)) (hL : LkV Y.1.cls idx Y2 1) (hb : M b = some (ci, sz, f)) (hq : vwCl[ci]? = some q) (hqc : q.1 = Y2.1.cls) (hs : Nat.ble (catS rest) 8 = true) (hM : CT G d (0, 0) Y2 (.ref b :: [a1]) M (fun r M' => XJ G (d + 1) k Y M' lv (rpush r rest) (pc + 3) Q)) : XJ G (d + 1) k Y M lv (a1 :: .ref b :: rest) pc Q :=
  x_callV [a1] hd hL hb hq hqc rfl (catS_8 hs) ⟨Nat.zero_le _, Nat.zero_le _⟩ rfl hM
theorem x_rV1 {Y2 : MR} {idx mc ms : Nat} {a1 : Value} {b : Nat} {ci sz : Nat} {f : Nat → Value} {q : vw_C} (hd : decode Y.2.1 pc = .ok (.invokevirtual idx, 3)) (hL : LkV Y.1.cls idx Y2 1) (hb : M b = some (ci, sz, f)) (hq : vwCl[ci]? = some q) (hqc : q.1 = Y2.1.cls) (hs : Nat.ble (catS rest) 8 = true) (hk : mc ≤ k.1 ∧ ms ≤ k.2) (hM : CT G d (mc, ms) Y2 (.ref b :: [a1]) M (fun r M' => XJ G (d + 1) (k.1 - mc, k.2 - ms) Y M' lv (rpush r rest) (pc + 3) Q)) : XJ G (d + 1) k Y M lv (a1 :: .ref b :: rest) pc Q :=
  x_callV [a1] hd hL hb hq hqc rfl (catS_8 hs) hk rfl hM
theorem x_cI1 {Y2 : MR} {idx : Nat} {a1 : Value} {b : Nat} (hd : decode Y.2.1 pc = .ok (.invokespecial idx, 3)) (hL : LkI Y.1.cls idx Y2 1) (hr : Y2.2.2.2 = none) (hs : Nat.ble (catS rest) 8 = true) (hM : CT G d (0, 0) Y2 (.ref b :: [a1]) M (fun r M' => XJ G (d + 1) k Y M' lv (rpush r rest) (pc + 3) Q)) : XJ G (d + 1) k Y M lv (a1 :: .ref b :: rest) pc Q :=
  x_callI [a1] hd hL hr rfl (catS_8 hs) ⟨Nat.zero_le _, Nat.zero_le _⟩ rfl hM
theorem x_rI1 {Y2 : MR} {idx mc ms : Nat} {a1 : Value} {b : Nat} (hd : decode Y.2.1 pc = .ok (.invokespecial idx, 3)) (hL : LkI Y.1.cls idx Y2 1) (hr : Y2.2.2.2 = none) (hs : Nat.ble (catS rest) 8 = true) (hk : mc ≤ k.1 ∧ ms ≤ k.2) (hM : CT G d (mc, ms) Y2 (.ref b :: [a1]) M (fun r M' => XJ G (d + 1) (k.1 - mc, k.2 - ms) Y M' lv (rpush r rest) (pc + 3) Q)) : XJ G (d + 1) k Y M lv (a1 :: .ref b :: rest) pc Q :=
  x_callI [a1] hd hL hr rfl (catS_8 hs) hk rfl hM
theorem x_cIN1 {Y2 : MR} {idx : Nat} {a1 : Value} {b : Nat} (hd : decode Y.2.1 pc = .ok (.invokespecial idx, 3)) (hL : LkIN Y.1.cls idx Y2 1) (hr : Y2.2.2.2 = none) (hs : Nat.ble (catS rest) 8 = true) (hM : CT G d (0, 0) Y2 (.ref b :: [a1]) M (fun r M' => XJ G (d + 1) k Y M' lv (rpush r rest) (pc + 3) Q)) : XJ G (d + 1) k Y M lv (a1 :: .ref b :: rest) pc Q :=
  x_callIN [a1] hd hL hr rfl (catS_8 hs) ⟨Nat.zero_le _, Nat.zero_le _⟩ rfl hM
theorem x_rIN1 {Y2 : MR} {idx mc ms : Nat} {a1 : Value} {b : Nat} (hd : decode Y.2.1 pc = .ok (.invokespecial idx, 3)) (hL : LkIN Y.1.cls idx Y2 1) (hr : Y2.2.2.2 = none) (hs : Nat.ble (catS rest) 8 = true) (hk : mc ≤ k.1 ∧ ms ≤ k.2) (hM : CT G d (mc, ms) Y2 (.ref b :: [a1]) M (fun r M' => XJ G (d + 1) (k.1 - mc, k.2 - ms) Y M' lv (rpush r rest) (pc + 3) Q)) : XJ G (d + 1) k Y M lv (a1 :: .ref b :: rest) pc Q :=
  x_callIN [a1] hd hL hr rfl (catS_8 hs) hk rfl hM
theorem x_cS2 {Y2 : MR} {idx : Nat} {a1 a2 : Value} (hd : decode Y.2.1 pc = .ok (.invokestatic idx, 3)) (hL : LkS Y.1.cls idx Y2 2) (hs : Nat.ble (catS rest) 8 = true) (hM : CT G d (0, 0) Y2 [a1, a2] M (fun r M' => XJ G (d + 1) k Y M' lv (rpush r rest) (pc + 3) Q)) : XJ G (d + 1) k Y M lv (a2 :: a1 :: rest) pc Q :=
  x_callS [a1, a2] hd hL rfl (catS_8 hs) ⟨Nat.zero_le _, Nat.zero_le _⟩ rfl hM
theorem x_rS2 {Y2 : MR} {idx mc ms : Nat} {a1 a2 : Value} (hd : decode Y.2.1 pc = .ok (.invokestatic idx, 3)) (hL : LkS Y.1.cls idx Y2 2) (hs : Nat.ble (catS rest) 8 = true) (hk : mc ≤ k.1 ∧ ms ≤ k.2) (hM : CT G d (mc, ms) Y2 [a1, a2] M (fun r M' => XJ G (d + 1) (k.1 - mc, k.2 - ms) Y M' lv (rpush r rest) (pc + 3) Q)) : XJ G (d + 1) k Y M lv (a2 :: a1 :: rest) pc Q :=
  x_callS [a1, a2] hd hL rfl (catS_8 hs) hk rfl hM
theorem x_cSN2 {Y2 : MR} {idx : Nat} {a1 a2 : Value} (hd : decode Y.2.1 pc = .ok (.invokestatic idx, 3)) (hL : LkSN Y.1.cls idx Y2 2) (hs : Nat.ble (catS rest) 8 = true) (hM : CT G d (0, 0) Y2 [a1, a2] M (fun r M' => XJ G (d + 1) k Y M' lv (rpush r rest) (pc + 3) Q)) : XJ G (d + 1) k Y M lv (a2 :: a1 :: rest) pc Q :=
  x_callSN [a1, a2] hd hL rfl (catS_8 hs) ⟨Nat.zero_le _, Nat.zero_le _⟩ rfl hM
theorem x_rSN2 {Y2 : MR} {idx mc ms : Nat} {a1 a2 : Value} (hd : decode Y.2.1 pc = .ok (.invokestatic idx, 3)) (hL : LkSN Y.1.cls idx Y2 2) (hs : Nat.ble (catS rest) 8 = true) (hk : mc ≤ k.1 ∧ ms ≤ k.2) (hM : CT G d (mc, ms) Y2 [a1, a2] M (fun r M' => XJ G (d + 1) (k.1 - mc, k.2 - ms) Y M' lv (rpush r rest) (pc + 3) Q)) : XJ G (d + 1) k Y M lv (a2 :: a1 :: rest) pc Q :=
  x_callSN [a1, a2] hd hL rfl (catS_8 hs) hk rfl hM
theorem x_cV2 {Y2 : MR} {idx : Nat} {a1 a2 : Value} {b : Nat} {ci sz : Nat} {f : Nat → Value} {q : vw_C} (hd : decode Y.2.1 pc = .ok (.invokevirtual idx, 3)) (hL : LkV Y.1.cls idx Y2 2) (hb : M b = some (ci, sz, f)) (hq : vwCl[ci]? = some q) (hqc : q.1 = Y2.1.cls) (hs : Nat.ble (catS rest) 8 = true) (hM : CT G d (0, 0) Y2 (.ref b :: [a1, a2]) M (fun r M' => XJ G (d + 1) k Y M' lv (rpush r rest) (pc + 3) Q)) : XJ G (d + 1) k Y M lv (a2 :: a1 :: .ref b :: rest) pc Q :=
  x_callV [a1, a2] hd hL hb hq hqc rfl (catS_8 hs) ⟨Nat.zero_le _, Nat.zero_le _⟩ rfl hM
theorem x_rV2 {Y2 : MR} {idx mc ms : Nat} {a1 a2 : Value} {b : Nat} {ci sz : Nat} {f : Nat → Value} {q : vw_C} (hd : decode Y.2.1 pc = .ok (.invokevirtual idx, 3)) (hL : LkV Y.1.cls idx Y2 2) (hb : M b = some (ci, sz, f)) (hq : vwCl[ci]? = some q) (hqc : q.1 = Y2.1.cls) (hs : Nat.ble (catS rest) 8 = true) (hk : mc ≤ k.1 ∧ ms ≤ k.2) (hM : CT G d (mc, ms) Y2 (.ref b :: [a1, a2]) M (fun r M' => XJ G (d + 1) (k.1 - mc, k.2 - ms) Y M' lv (rpush r rest) (pc + 3) Q)) : XJ G (d + 1) k Y M lv (a2 :: a1 :: .ref b :: rest) pc Q :=
  x_callV [a1, a2] hd hL hb hq hqc rfl (catS_8 hs) hk rfl hM
theorem x_cI2 {Y2 : MR} {idx : Nat} {a1 a2 : Value} {b : Nat} (hd : decode Y.2.1 pc = .ok (.invokespecial idx, 3)) (hL : LkI Y.1.cls idx Y2 2) (hr : Y2.2.2.2 = none) (hs : Nat.ble (catS rest) 8 = true) (hM : CT G d (0, 0) Y2 (.ref b :: [a1, a2]) M (fun r M' => XJ G (d + 1) k Y M' lv (rpush r rest) (pc + 3) Q)) : XJ G (d + 1) k Y M lv (a2 :: a1 :: .ref b :: rest) pc Q :=
  x_callI [a1, a2] hd hL hr rfl (catS_8 hs) ⟨Nat.zero_le _, Nat.zero_le _⟩ rfl hM
theorem x_rI2 {Y2 : MR} {idx mc ms : Nat} {a1 a2 : Value} {b : Nat} (hd : decode Y.2.1 pc = .ok (.invokespecial idx, 3)) (hL : LkI Y.1.cls idx Y2 2) (hr : Y2.2.2.2 = none) (hs : Nat.ble (catS rest) 8 = true) (hk : mc ≤ k.1 ∧ ms ≤ k.2) (hM : CT G d (mc, ms) Y2 (.ref b :: [a1, a2]) M (fun r M' => XJ G (d + 1) (k.1 - mc, k.2 - ms) Y M' lv (rpush r rest) (pc + 3) Q)) : XJ G (d + 1) k Y M lv (a2 :: a1 :: .ref b :: rest) pc Q :=
  x_callI [a1, a2] hd hL hr rfl (catS_8 hs) hk rfl hM
theorem x_cIN2 {Y2 : MR} {idx : Nat} {a1 a2 : Value} {b : Nat} (hd : decode Y.2.1 pc = .ok (.invokespecial idx, 3)) (hL : LkIN Y.1.cls idx Y2 2) (hr : Y2.2.2.2 = none) (hs : Nat.ble (catS rest) 8 = true) (hM : CT G d (0, 0) Y2 (.ref b :: [a1, a2]) M (fun r M' => XJ G (d + 1) k Y M' lv (rpush r rest) (pc + 3) Q)) : XJ G (d + 1) k Y M lv (a2 :: a1 :: .ref b :: rest) pc Q :=
  x_callIN [a1, a2] hd hL hr rfl (catS_8 hs) ⟨Nat.zero_le _, Nat.zero_le _⟩ rfl hM
theorem x_rIN2 {Y2 : MR} {idx mc ms : Nat} {a1 a2 : Value} {b : Nat} (hd : decode Y.2.1 pc = .ok (.invokespecial idx, 3)) (hL : LkIN Y.1.cls idx Y2 2) (hr : Y2.2.2.2 = none) (hs : Nat.ble (catS rest) 8 = true) (hk : mc ≤ k.1 ∧ ms ≤ k.2) (hM : CT G d (mc, ms) Y2 (.ref b :: [a1, a2]) M (fun r M' => XJ G (d + 1) (k.1 - mc, k.2 - ms) Y M' lv (rpush r rest) (pc + 3) Q)) : XJ G (d + 1) k Y M lv (a2 :: a1 :: .ref b :: rest) pc Q :=
  x_callIN [a1, a2] hd hL hr rfl (catS_8 hs) hk rfl hM
theorem x_cS3 {Y2 : MR} {idx : Nat} {a1 a2 a3 : Value} (hd : decode Y.2.1 pc = .ok (.invokestatic idx, 3)) (hL : LkS Y.1.cls idx Y2 3) (hs : Nat.ble (catS rest) 8 = true) (hM : CT G d (0, 0) Y2 [a1, a2, a3] M (fun r M' => XJ G (d + 1) k Y M' lv (rpush r rest) (pc + 3) Q)) : XJ G (d + 1) k Y M lv (a3 :: a2 :: a1 :: rest) pc Q :=
  x_callS [a1, a2, a3] hd hL rfl (catS_8 hs) ⟨Nat.zero_le _, Nat.zero_le _⟩ rfl hM
theorem x_rS3 {Y2 : MR} {idx mc ms : Nat} {a1 a2 a3 : Value} (hd : decode Y.2.1 pc = .ok (.invokestatic idx, 3)) (hL : LkS Y.1.cls idx Y2 3) (hs : Nat.ble (catS rest) 8 = true) (hk : mc ≤ k.1 ∧ ms ≤ k.2) (hM : CT G d (mc, ms) Y2 [a1, a2, a3] M (fun r M' => XJ G (d + 1) (k.1 - mc, k.2 - ms) Y M' lv (rpush r rest) (pc + 3) Q)) : XJ G (d + 1) k Y M lv (a3 :: a2 :: a1 :: rest) pc Q :=
  x_callS [a1, a2, a3] hd hL rfl (catS_8 hs) hk rfl hM
theorem x_cSN3 {Y2 : MR} {idx : Nat} {a1 a2 a3 : Value} (hd : decode Y.2.1 pc = .ok (.invokestatic idx, 3)) (hL : LkSN Y.1.cls idx Y2 3) (hs : Nat.ble (catS rest) 8 = true) (hM : CT G d (0, 0) Y2 [a1, a2, a3] M (fun r M' => XJ G (d + 1) k Y M' lv (rpush r rest) (pc + 3) Q)) : XJ G (d + 1) k Y M lv (a3 :: a2 :: a1 :: rest) pc Q :=
  x_callSN [a1, a2, a3] hd hL rfl (catS_8 hs) ⟨Nat.zero_le _, Nat.zero_le _⟩ rfl hM
theorem x_rSN3 {Y2 : MR} {idx mc ms : Nat} {a1 a2 a3 : Value} (hd : decode Y.2.1 pc = .ok (.invokestatic idx, 3)) (hL : LkSN Y.1.cls idx Y2 3) (hs : Nat.ble (catS rest) 8 = true) (hk : mc ≤ k.1 ∧ ms ≤ k.2) (hM : CT G d (mc, ms) Y2 [a1, a2, a3] M (fun r M' => XJ G (d + 1) (k.1 - mc, k.2 - ms) Y M' lv (rpush r rest) (pc + 3) Q)) : XJ G (d + 1) k Y M lv (a3 :: a2 :: a1 :: rest) pc Q :=
  x_callSN [a1, a2, a3] hd hL rfl (catS_8 hs) hk rfl hM
theorem x_cV3 {Y2 : MR} {idx : Nat} {a1 a2 a3 : Value} {b : Nat} {ci sz : Nat} {f : Nat → Value} {q : vw_C} (hd : decode Y.2.1 pc = .ok (.invokevirtual idx, 3)) (hL : LkV Y.1.cls idx Y2 3) (hb : M b = some (ci, sz, f)) (hq : vwCl[ci]? = some q) (hqc : q.1 = Y2.1.cls) (hs : Nat.ble (catS rest) 8 = true) (hM : CT G d (0, 0) Y2 (.ref b :: [a1, a2, a3]) M (fun r M' => XJ G (d + 1) k Y M' lv (rpush r rest) (pc + 3) Q)) : XJ G (d + 1) k Y M lv (a3 :: a2 :: a1 :: .ref b :: rest) pc Q :=
  x_callV [a1, a2, a3] hd hL hb hq hqc rfl (catS_8 hs) ⟨Nat.zero_le _, Nat.zero_le _⟩ rfl hM
theorem x_rV3 {Y2 : MR} {idx mc ms : Nat} {a1 a2 a3 : Value} {b : Nat} {ci sz : Nat} {f : Nat → Value} {q : vw_C} (hd : decode Y.2.1 pc = .ok (.invokevirtual idx, 3)) (hL : LkV Y.1.cls idx Y2 3) (hb : M b = some (ci, sz, f)) (hq : vwCl[ci]? = some q) (hqc : q.1 = Y2.1.cls) (hs : Nat.ble (catS rest) 8 = true) (hk : mc ≤ k.1 ∧ ms ≤ k.2) (hM : CT G d (mc, ms) Y2 (.ref b :: [a1, a2, a3]) M (fun r M' => XJ G (d + 1) (k.1 - mc, k.2 - ms) Y M' lv (rpush r rest) (pc + 3) Q)) : XJ G (d + 1) k Y M lv (a3 :: a2 :: a1 :: .ref b :: rest) pc Q :=
  x_callV [a1, a2, a3] hd hL hb hq hqc rfl (catS_8 hs) hk rfl hM
theorem x_cI3 {Y2 : MR} {idx : Nat} {a1 a2 a3 : Value} {b : Nat} (hd : decode Y.2.1 pc = .ok (.invokespecial idx, 3)) (hL : LkI Y.1.cls idx Y2 3) (hr : Y2.2.2.2 = none) (hs : Nat.ble (catS rest) 8 = true) (hM : CT G d (0, 0) Y2 (.ref b :: [a1, a2, a3]) M (fun r M' => XJ G (d + 1) k Y M' lv (rpush r rest) (pc + 3) Q)) : XJ G (d + 1) k Y M lv (a3 :: a2 :: a1 :: .ref b :: rest) pc Q :=
  x_callI [a1, a2, a3] hd hL hr rfl (catS_8 hs) ⟨Nat.zero_le _, Nat.zero_le _⟩ rfl hM
theorem x_rI3 {Y2 : MR} {idx mc ms : Nat} {a1 a2 a3 : Value} {b : Nat} (hd : decode Y.2.1 pc = .ok (.invokespecial idx, 3)) (hL : LkI Y.1.cls idx Y2 3) (hr : Y2.2.2.2 = none) (hs : Nat.ble (catS rest) 8 = true) (hk : mc ≤ k.1 ∧ ms ≤ k.2) (hM : CT G d (mc, ms) Y2 (.ref b :: [a1, a2, a3]) M (fun r M' => XJ G (d + 1) (k.1 - mc, k.2 - ms) Y M' lv (rpush r rest) (pc + 3) Q)) : XJ G (d + 1) k Y M lv (a3 :: a2 :: a1 :: .ref b :: rest) pc Q :=
  x_callI [a1, a2, a3] hd hL hr rfl (catS_8 hs) hk rfl hM
theorem x_cIN3 {Y2 : MR} {idx : Nat} {a1 a2 a3 : Value} {b : Nat} (hd : decode Y.2.1 pc = .ok (.invokespecial idx, 3)) (hL : LkIN Y.1.cls idx Y2 3) (hr : Y2.2.2.2 = none) (hs : Nat.ble (catS rest) 8 = true) (hM : CT G d (0, 0) Y2 (.ref b :: [a1, a2, a3]) M (fun r M' => XJ G (d + 1) k Y M' lv (rpush r rest) (pc + 3) Q)) : XJ G (d + 1) k Y M lv (a3 :: a2 :: a1 :: .ref b :: rest) pc Q :=
  x_callIN [a1, a2, a3] hd hL hr rfl (catS_8 hs) ⟨Nat.zero_le _, Nat.zero_le _⟩ rfl hM
theorem x_rIN3 {Y2 : MR} {idx mc ms : Nat} {a1 a2 a3 : Value} {b : Nat} (hd : decode Y.2.1 pc = .ok (.invokespecial idx, 3)) (hL : LkIN Y.1.cls idx Y2 3) (hr : Y2.2.2.2 = none) (hs : Nat.ble (catS rest) 8 = true) (hk : mc ≤ k.1 ∧ ms ≤ k.2) (hM : CT G d (mc, ms) Y2 (.ref b :: [a1, a2, a3]) M (fun r M' => XJ G (d + 1) (k.1 - mc, k.2 - ms) Y M' lv (rpush r rest) (pc + 3) Q)) : XJ G (d + 1) k Y M lv (a3 :: a2 :: a1 :: .ref b :: rest) pc Q :=
  x_callIN [a1, a2, a3] hd hL hr rfl (catS_8 hs) hk rfl hM
theorem x_cS4 {Y2 : MR} {idx : Nat} {a1 a2 a3 a4 : Value} (hd : decode Y.2.1 pc = .ok (.invokestatic idx, 3)) (hL : LkS Y.1.cls idx Y2 4) (hs : Nat.ble (catS rest) 8 = true) (hM : CT G d (0, 0) Y2 [a1, a2, a3, a4] M (fun r M' => XJ G (d + 1) k Y M' lv (rpush r rest) (pc + 3) Q)) : XJ G (d + 1) k Y M lv (a4 :: a3 :: a2 :: a1 :: rest) pc Q :=
  x_callS [a1, a2, a3, a4] hd hL rfl (catS_8 hs) ⟨Nat.zero_le _, Nat.zero_le _⟩ rfl hM
theorem x_rS4 {Y2 : MR} {idx mc ms : Nat} {a1 a2 a3 a4 : Value} (hd : decode Y.2.1 pc = .ok (.invokestatic idx, 3)) (hL : LkS Y.1.cls idx Y2 4) (hs : Nat.ble (catS rest) 8 = true) (hk : mc ≤ k.1 ∧ ms ≤ k.2) (hM : CT G d (mc, ms) Y2 [a1, a2, a3, a4] M (fun r M' => XJ G (d + 1) (k.1 - mc, k.2 - ms) Y M' lv (rpush r rest) (pc + 3) Q)) : XJ G (d + 1) k Y M lv (a4 :: a3 :: a2 :: a1 :: rest) pc Q :=
  x_callS [a1, a2, a3, a4] hd hL rfl (catS_8 hs) hk rfl hM
theorem x_cSN4 {Y2 : MR} {idx : Nat} {a1 a2 a3 a4 : Value} (hd : decode Y.2.1 pc = .ok (.invokestatic idx, 3)) (hL : LkSN Y.1.cls idx Y2 4) (hs : Nat.ble (catS rest) 8 = true) (hM : CT G d (0, 0) Y2 [a1, a2, a3, a4] M (fun r M' => XJ G (d + 1) k Y M' lv (rpush r rest) (pc + 3) Q)) : XJ G (d + 1) k Y M lv (a4 :: a3 :: a2 :: a1 :: rest) pc Q :=
  x_callSN [a1, a2, a3, a4] hd hL rfl (catS_8 hs) ⟨Nat.zero_le _, Nat.zero_le _⟩ rfl hM
theorem x_rSN4 {Y2 : MR} {idx mc ms : Nat} {a1 a2 a3 a4 : Value} (hd : decode Y.2.1 pc = .ok (.invokestatic idx, 3)) (hL : LkSN Y.1.cls idx Y2 4) (hs : Nat.ble (catS rest) 8 = true) (hk : mc ≤ k.1 ∧ ms ≤ k.2) (hM : CT G d (mc, ms) Y2 [a1, a2, a3, a4] M (fun r M' => XJ G (d + 1) (k.1 - mc, k.2 - ms) Y M' lv (rpush r rest) (pc + 3) Q)) : XJ G (d + 1) k Y M lv (a4 :: a3 :: a2 :: a1 :: rest) pc Q :=
  x_callSN [a1, a2, a3, a4] hd hL rfl (catS_8 hs) hk rfl hM
theorem x_cV4 {Y2 : MR} {idx : Nat} {a1 a2 a3 a4 : Value} {b : Nat} {ci sz : Nat} {f : Nat → Value} {q : vw_C} (hd : decode Y.2.1 pc = .ok (.invokevirtual idx, 3)) (hL : LkV Y.1.cls idx Y2 4) (hb : M b = some (ci, sz, f)) (hq : vwCl[ci]? = some q) (hqc : q.1 = Y2.1.cls) (hs : Nat.ble (catS rest) 8 = true) (hM : CT G d (0, 0) Y2 (.ref b :: [a1, a2, a3, a4]) M (fun r M' => XJ G (d + 1) k Y M' lv (rpush r rest) (pc + 3) Q)) : XJ G (d + 1) k Y M lv (a4 :: a3 :: a2 :: a1 :: .ref b :: rest) pc Q :=
  x_callV [a1, a2, a3, a4] hd hL hb hq hqc rfl (catS_8 hs) ⟨Nat.zero_le _, Nat.zero_le _⟩ rfl hM
theorem x_rV4 {Y2 : MR} {idx mc ms : Nat} {a1 a2 a3 a4 : Value} {b : Nat} {ci sz : Nat} {f : Nat → Value} {q : vw_C} (hd : decode Y.2.1 pc = .ok (.invokevirtual idx, 3)) (hL : LkV Y.1.cls idx Y2 4) (hb : M b = some (ci, sz, f)) (hq : vwCl[ci]? = some q) (hqc : q.1 = Y2.1.cls) (hs : Nat.ble (catS rest) 8 = true) (hk : mc ≤ k.1 ∧ ms ≤ k.2) (hM : CT G d (mc, ms) Y2 (.ref b :: [a1, a2, a3, a4]) M (fun r M' => XJ G (d + 1) (k.1 - mc, k.2 - ms) Y M' lv (rpush r rest) (pc + 3) Q)) : XJ G (d + 1) k Y M lv (a4 :: a3 :: a2 :: a1 :: .ref b :: rest) pc Q :=
  x_callV [a1, a2, a3, a4] hd hL hb hq hqc rfl (catS_8 hs) hk rfl hM
theorem x_cI4 {Y2 : MR} {idx : Nat} {a1 a2 a3 a4 : Value} {b : Nat} (hd : decode Y.2.1 pc = .ok (.invokespecial idx, 3)) (hL : LkI Y.1.cls idx Y2 4) (hr : Y2.2.2.2 = none) (hs : Nat.ble (catS rest) 8 = true) (hM : CT G d (0, 0) Y2 (.ref b :: [a1, a2, a3, a4]) M (fun r M' => XJ G (d + 1) k Y M' lv (rpush r rest) (pc + 3) Q)) : XJ G (d + 1) k Y M lv (a4 :: a3 :: a2 :: a1 :: .ref b :: rest) pc Q :=
  x_callI [a1, a2, a3, a4] hd hL hr rfl (catS_8 hs) ⟨Nat.zero_le _, Nat.zero_le _⟩ rfl hM
theorem x_rI4 {Y2 : MR} {idx mc ms : Nat} {a1 a2 a3 a4 : Value} {b : Nat} (hd : decode Y.2.1 pc = .ok (.invokespecial idx, 3)) (hL : LkI Y.1.cls idx Y2 4) (hr : Y2.2.2.2 = none) (hs : Nat.ble (catS rest) 8 = true) (hk : mc ≤ k.1 ∧ ms ≤ k.2) (hM : CT G d (mc, ms) Y2 (.ref b :: [a1, a2, a3, a4]) M (fun r M' => XJ G (d + 1) (k.1 - mc, k.2 - ms) Y M' lv (rpush r rest) (pc + 3) Q)) : XJ G (d + 1) k Y M lv (a4 :: a3 :: a2 :: a1 :: .ref b :: rest) pc Q :=
  x_callI [a1, a2, a3, a4] hd hL hr rfl (catS_8 hs) hk rfl hM
theorem x_cIN4 {Y2 : MR} {idx : Nat} {a1 a2 a3 a4 : Value} {b : Nat} (hd : decode Y.2.1 pc = .ok (.invokespecial idx, 3)) (hL : LkIN Y.1.cls idx Y2 4) (hr : Y2.2.2.2 = none) (hs : Nat.ble (catS rest) 8 = true) (hM : CT G d (0, 0) Y2 (.ref b :: [a1, a2, a3, a4]) M (fun r M' => XJ G (d + 1) k Y M' lv (rpush r rest) (pc + 3) Q)) : XJ G (d + 1) k Y M lv (a4 :: a3 :: a2 :: a1 :: .ref b :: rest) pc Q :=
  x_callIN [a1, a2, a3, a4] hd hL hr rfl (catS_8 hs) ⟨Nat.zero_le _, Nat.zero_le _⟩ rfl hM
theorem x_rIN4 {Y2 : MR} {idx mc ms : Nat} {a1 a2 a3 a4 : Value} {b : Nat} (hd : decode Y.2.1 pc = .ok (.invokespecial idx, 3)) (hL : LkIN Y.1.cls idx Y2 4) (hr : Y2.2.2.2 = none) (hs : Nat.ble (catS rest) 8 = true) (hk : mc ≤ k.1 ∧ ms ≤ k.2) (hM : CT G d (mc, ms) Y2 (.ref b :: [a1, a2, a3, a4]) M (fun r M' => XJ G (d + 1) (k.1 - mc, k.2 - ms) Y M' lv (rpush r rest) (pc + 3) Q)) : XJ G (d + 1) k Y M lv (a4 :: a3 :: a2 :: a1 :: .ref b :: rest) pc Q :=
  x_callIN [a1, a2, a3, a4] hd hL hr rfl (catS_8 hs) hk rfl hM
theorem x_cS5 {Y2 : MR} {idx : Nat} {a1 a2 a3 a4 a5 : Value} (hd : decode Y.2.1 pc = .ok (.invokestatic idx, 3)) (hL : LkS Y.1.cls idx Y2 5) (hs : Nat.ble (catS rest) 8 = true) (hM : CT G d (0, 0) Y2 [a1, a2, a3, a4, a5] M (fun r M' => XJ G (d + 1) k Y M' lv (rpush r rest) (pc + 3) Q)) : XJ G (d + 1) k Y M lv (a5 :: a4 :: a3 :: a2 :: a1 :: rest) pc Q :=
  x_callS [a1, a2, a3, a4, a5] hd hL rfl (catS_8 hs) ⟨Nat.zero_le _, Nat.zero_le _⟩ rfl hM
theorem x_rS5 {Y2 : MR} {idx mc ms : Nat} {a1 a2 a3 a4 a5 : Value} (hd : decode Y.2.1 pc = .ok (.invokestatic idx, 3)) (hL : LkS Y.1.cls idx Y2 5) (hs : Nat.ble (catS rest) 8 = true) (hk : mc ≤ k.1 ∧ ms ≤ k.2) (hM : CT G d (mc, ms) Y2 [a1, a2, a3, a4, a5] M (fun r M' => XJ G (d + 1) (k.1 - mc, k.2 - ms) Y M' lv (rpush r rest) (pc + 3) Q)) : XJ G (d + 1) k Y M lv (a5 :: a4 :: a3 :: a2 :: a1 :: rest) pc Q :=
  x_callS [a1, a2, a3, a4, a5] hd hL rfl (catS_8 hs) hk rfl hM
theorem x_cSN5 {Y2 : MR} {idx : Nat} {a1 a2 a3 a4 a5 : Value} (hd : decode Y.2.1 pc = .ok (.invokestatic idx, 3)) (hL : LkSN Y.1.cls idx Y2 5) (hs : Nat.ble (catS rest) 8 = true) (hM : CT G d (0, 0) Y2 [a1, a2, a3, a4, a5] M (fun r M' => XJ G (d + 1) k Y M' lv (rpush r rest) (pc + 3) Q)) : XJ G (d + 1) k Y M lv (a5 :: a4 :: a3 :: a2 :: a1 :: rest) pc Q :=
  x_callSN [a1, a2, a3, a4, a5] hd hL rfl (catS_8 hs) ⟨Nat.zero_le _, Nat.zero_le _⟩ rfl hM
theorem x_rSN5 {Y2 : MR} {idx mc ms : Nat} {a1 a2 a3 a4 a5 : Value} (hd : decode Y.2.1 pc = .ok (.invokestatic idx, 3)) (hL : LkSN Y.1.cls idx Y2 5) (hs : Nat.ble (catS rest) 8 = true) (hk : mc ≤ k.1 ∧ ms ≤ k.2) (hM : CT G d (mc, ms) Y2 [a1, a2, a3, a4, a5] M (fun r M' => XJ G (d + 1) (k.1 - mc, k.2 - ms) Y M' lv (rpush r rest) (pc + 3) Q)) : XJ G (d + 1) k Y M lv (a5 :: a4 :: a3 :: a2 :: a1 :: rest) pc Q :=
  x_callSN [a1, a2, a3, a4, a5] hd hL rfl (catS_8 hs) hk rfl hM
theorem x_cV5 {Y2 : MR} {idx : Nat} {a1 a2 a3 a4 a5 : Value} {b : Nat} {ci sz : Nat} {f : Nat → Value} {q : vw_C} (hd : decode Y.2.1 pc = .ok (.invokevirtual idx, 3)) (hL : LkV Y.1.cls idx Y2 5) (hb : M b = some (ci, sz, f)) (hq : vwCl[ci]? = some q) (hqc : q.1 = Y2.1.cls) (hs : Nat.ble (catS rest) 8 = true) (hM : CT G d (0, 0) Y2 (.ref b :: [a1, a2, a3, a4, a5]) M (fun r M' => XJ G (d + 1) k Y M' lv (rpush r rest) (pc + 3) Q)) : XJ G (d + 1) k Y M lv (a5 :: a4 :: a3 :: a2 :: a1 :: .ref b :: rest) pc Q :=
  x_callV [a1, a2, a3, a4, a5] hd hL hb hq hqc rfl (catS_8 hs) ⟨Nat.zero_le _, Nat.zero_le _⟩ rfl hM
theorem x_rV5 {Y2 : MR} {idx mc ms : Nat} {a1 a2 a3 a4 a5 : Value} {b : Nat} {ci sz : Nat} {f : Nat → Value} {q : vw_C} (hd : decode Y.2.1 pc = .ok (.invokevirtual idx, 3)) (hL : LkV Y.1.cls idx Y2 5) (hb : M b = some (ci, sz, f)) (hq : vwCl[ci]? = some q) (hqc : q.1 = Y2.1.cls) (hs : Nat.ble (catS rest) 8 = true) (hk : mc ≤ k.1 ∧ ms ≤ k.2) (hM : CT G d (mc, ms) Y2 (.ref b :: [a1, a2, a3, a4, a5]) M (fun r M' => XJ G (d + 1) (k.1 - mc, k.2 - ms) Y M' lv (rpush r rest) (pc + 3) Q)) : XJ G (d + 1) k Y M lv (a5 :: a4 :: a3 :: a2 :: a1 :: .ref b :: rest) pc Q :=
  x_callV [a1, a2, a3, a4, a5] hd hL hb hq hqc rfl (catS_8 hs) hk rfl hM
theorem x_cI5 {Y2 : MR} {idx : Nat} {a1 a2 a3 a4 a5 : Value} {b : Nat} (hd : decode Y.2.1 pc = .ok (.invokespecial idx, 3)) (hL : LkI Y.1.cls idx Y2 5) (hr : Y2.2.2.2 = none) (hs : Nat.ble (catS rest) 8 = true) (hM : CT G d (0, 0) Y2 (.ref b :: [a1, a2, a3, a4, a5]) M (fun r M' => XJ G (d + 1) k Y M' lv (rpush r rest) (pc + 3) Q)) : XJ G (d + 1) k Y M lv (a5 :: a4 :: a3 :: a2 :: a1 :: .ref b :: rest) pc Q :=
  x_callI [a1, a2, a3, a4, a5] hd hL hr rfl (catS_8 hs) ⟨Nat.zero_le _, Nat.zero_le _⟩ rfl hM
theorem x_rI5 {Y2 : MR} {idx mc ms : Nat} {a1 a2 a3 a4 a5 : Value} {b : Nat} (hd : decode Y.2.1 pc = .ok (.invokespecial idx, 3)) (hL : LkI Y.1.cls idx Y2 5) (hr : Y2.2.2.2 = none) (hs : Nat.ble (catS rest) 8 = true) (hk : mc ≤ k.1 ∧ ms ≤ k.2) (hM : CT G d (mc, ms) Y2 (.ref b :: [a1, a2, a3, a4, a5]) M (fun r M' => XJ G (d + 1) (k.1 - mc, k.2 - ms) Y M' lv (rpush r rest) (pc + 3) Q)) : XJ G (d + 1) k Y M lv (a5 :: a4 :: a3 :: a2 :: a1 :: .ref b :: rest) pc Q :=
  x_callI [a1, a2, a3, a4, a5] hd hL hr rfl (catS_8 hs) hk rfl hM
theorem x_cIN5 {Y2 : MR} {idx : Nat} {a1 a2 a3 a4 a5 : Value} {b : Nat} (hd : decode Y.2.1 pc = .ok (.invokespecial idx, 3)) (hL : LkIN Y.1.cls idx Y2 5) (hr : Y2.2.2.2 = none) (hs : Nat.ble (catS rest) 8 = true) (hM : CT G d (0, 0) Y2 (.ref b :: [a1, a2, a3, a4, a5]) M (fun r M' => XJ G (d + 1) k Y M' lv (rpush r rest) (pc + 3) Q)) : XJ G (d + 1) k Y M lv (a5 :: a4 :: a3 :: a2 :: a1 :: .ref b :: rest) pc Q :=
  x_callIN [a1, a2, a3, a4, a5] hd hL hr rfl (catS_8 hs) ⟨Nat.zero_le _, Nat.zero_le _⟩ rfl hM
theorem x_rIN5 {Y2 : MR} {idx mc ms : Nat} {a1 a2 a3 a4 a5 : Value} {b : Nat} (hd : decode Y.2.1 pc = .ok (.invokespecial idx, 3)) (hL : LkIN Y.1.cls idx Y2 5) (hr : Y2.2.2.2 = none) (hs : Nat.ble (catS rest) 8 = true) (hk : mc ≤ k.1 ∧ ms ≤ k.2) (hM : CT G d (mc, ms) Y2 (.ref b :: [a1, a2, a3, a4, a5]) M (fun r M' => XJ G (d + 1) (k.1 - mc, k.2 - ms) Y M' lv (rpush r rest) (pc + 3) Q)) : XJ G (d + 1) k Y M lv (a5 :: a4 :: a3 :: a2 :: a1 :: .ref b :: rest) pc Q :=
  x_callIN [a1, a2, a3, a4, a5] hd hL hr rfl (catS_8 hs) hk rfl hM
theorem x_cS6 {Y2 : MR} {idx : Nat} {a1 a2 a3 a4 a5 a6 : Value} (hd : decode Y.2.1 pc = .ok (.invokestatic idx, 3)) (hL : LkS Y.1.cls idx Y2 6) (hs : Nat.ble (catS rest) 8 = true) (hM : CT G d (0, 0) Y2 [a1, a2, a3, a4, a5, a6] M (fun r M' => XJ G (d + 1) k Y M' lv (rpush r rest) (pc + 3) Q)) : XJ G (d + 1) k Y M lv (a6 :: a5 :: a4 :: a3 :: a2 :: a1 :: rest) pc Q :=
  x_callS [a1, a2, a3, a4, a5, a6] hd hL rfl (catS_8 hs) ⟨Nat.zero_le _, Nat.zero_le _⟩ rfl hM
theorem x_rS6 {Y2 : MR} {idx mc ms : Nat} {a1 a2 a3 a4 a5 a6 : Value} (hd : decode Y.2.1 pc = .ok (.invokestatic idx, 3)) (hL : LkS Y.1.cls idx Y2 6) (hs : Nat.ble (catS rest) 8 = true) (hk : mc ≤ k.1 ∧ ms ≤ k.2) (hM : CT G d (mc, ms) Y2 [a1, a2, a3, a4, a5, a6] M (fun r M' => XJ G (d + 1) (k.1 - mc, k.2 - ms) Y M' lv (rpush r rest) (pc + 3) Q)) : XJ G (d + 1) k Y M lv (a6 :: a5 :: a4 :: a3 :: a2 :: a1 :: rest) pc Q :=
  x_callS [a1, a2, a3, a4, a5, a6] hd hL rfl (catS_8 hs) hk rfl hM
theorem x_cSN6 {Y2 : MR} {idx : Nat} {a1 a2 a3 a4 a5 a6 : Value} (hd : decode Y.2.1 pc = .ok (.invokestatic idx, 3)) (hL : LkSN Y.1.cls idx Y2 6) (hs : Nat.ble (catS rest) 8 = true) (hM : CT G d (0, 0) Y2 [a1, a2, a3, a4, a5, a6] M (fun r M' => XJ G (d + 1) k Y M' lv (rpush r rest) (pc + 3) Q)) : XJ G (d + 1) k Y M lv (a6 :: a5 :: a4 :: a3 :: a2 :: a1 :: rest) pc Q :=
  x_callSN [a1, a2, a3, a4, a5, a6] hd hL rfl (catS_8 hs) ⟨Nat.zero_le _, Nat.zero_le _⟩ rfl hM
theorem x_rSN6 {Y2 : MR} {idx mc ms : Nat} {a1 a2 a3 a4 a5 a6 : Value} (hd : decode Y.2.1 pc = .ok (.invokestatic idx, 3)) (hL : LkSN Y.1.cls idx Y2 6) (hs : Nat.ble (catS rest) 8 = true) (hk : mc ≤ k.1 ∧ ms ≤ k.2) (hM : CT G d (mc, ms) Y2 [a1, a2, a3, a4, a5, a6] M (fun r M' => XJ G (d + 1) (k.1 - mc, k.2 - ms) Y M' lv (rpush r rest) (pc + 3) Q)) : XJ G (d + 1) k Y M lv (a6 :: a5 :: a4 :: a3 :: a2 :: a1 :: rest) pc Q :=
  x_callSN [a1, a2, a3, a4, a5, a6] hd hL rfl (catS_8 hs) hk rfl hM
theorem x_cV6 {Y2 : MR} {idx : Nat} {a1 a2 a3 a4 a5 a6 : Value} {b : Nat} {ci sz : Nat} {f : Nat → Value} {q : vw_C} (hd : decode Y.2.1 pc = .ok (.invokevirtual idx, 3)) (hL : LkV Y.1.cls idx Y2 6) (hb : M b = some (ci, sz, f)) (hq : vwCl[ci]? = some q) (hqc : q.1 = Y2.1.cls) (hs : Nat.ble (catS rest) 8 = true) (hM : CT G d (0, 0) Y2 (.ref b :: [a1, a2, a3, a4, a5, a6]) M (fun r M' => XJ G (d + 1) k Y M' lv (rpush r rest) (pc + 3) Q)) : XJ G (d + 1) k Y M lv (a6 :: a5 :: a4 :: a3 :: a2 :: a1 :: .ref b :: rest) pc Q :=
  x_callV [a1, a2, a3, a4, a5, a6] hd hL hb hq hqc rfl (catS_8 hs) ⟨Nat.zero_le _, Nat.zero_le _⟩ rfl hM
theorem x_rV6 {Y2 : MR} {idx mc ms : Nat} {a1 a2 a3 a4 a5 a6 : Value} {b : Nat} {ci sz : Nat} {f : Nat → Value} {q : vw_C} (hd : decode Y.2.1 pc = .ok (.invokevirtual idx, 3)) (hL : LkV Y.1.cls idx Y2 6) (hb : M b = some (ci, sz, f)) (hq : vwCl[ci]? = some q) (hqc : q.1 = Y2.1.cls) (hs : Nat.ble (catS rest) 8 = true) (hk : mc ≤ k.1 ∧ ms ≤ k.2) (hM : CT G d (mc, ms) Y2 (.ref b :: [a1, a2, a3, a4, a5, a6]) M (fun r M' => XJ G (d + 1) (k.1 - mc, k.2 - ms) Y M' lv (rpush r rest) (pc + 3) Q)) : XJ G (d + 1) k Y M lv (a6 :: a5 :: a4 :: a3 :: a2 :: a1 :: .ref b :: rest) pc Q :=
  x_callV [a1, a2, a3, a4, a5, a6] hd hL hb hq hqc rfl (catS_8 hs) hk rfl hM
theorem x_cI6 {Y2 : MR} {idx : Nat} {a1 a2 a3 a4 a5 a6 : Value} {b : Nat} (hd : decode Y.2.1 pc = .ok (.invokespecial idx, 3)) (hL : LkI Y.1.cls idx Y2 6) (hr : Y2.2.2.2 = none) (hs : Nat.ble (catS rest) 8 = true) (hM : CT G d (0, 0) Y2 (.ref b :: [a1, a2, a3, a4, a5, a6]) M (fun r M' => XJ G (d + 1) k Y M' lv (rpush r rest) (pc + 3) Q)) : XJ G (d + 1) k Y M lv (a6 :: a5 :: a4 :: a3 :: a2 :: a1 :: .ref b :: rest) pc Q :=
  x_callI [a1, a2, a3, a4, a5, a6] hd hL hr rfl (catS_8 hs) ⟨Nat.zero_le _, Nat.zero_le _⟩ rfl hM
theorem x_rI6 {Y2 : MR} {idx mc ms : Nat} {a1 a2 a3 a4 a5 a6 : Value} {b : Nat} (hd : decode Y.2.1 pc = .ok (.invokespecial idx, 3)) (hL : LkI Y.1.cls idx Y2 6) (hr : Y2.2.2.2 = none) (hs : Nat.ble (catS rest) 8 = true) (hk : mc ≤ k.1 ∧ ms ≤ k.2) (hM : CT G d (mc, ms) Y2 (.ref b :: [a1, a2, a3, a4, a5, a6]) M (fun r M' => XJ G (d + 1) (k.1 - mc, k.2 - ms) Y M' lv (rpush r rest) (pc + 3) Q)) : XJ G (d + 1) k Y M lv (a6 :: a5 :: a4 :: a3 :: a2 :: a1 :: .ref b :: rest) pc Q :=
  x_callI [a1, a2, a3, a4, a5, a6] hd hL hr rfl (catS_8 hs) hk rfl hM
theorem x_cIN6 {Y2 : MR} {idx : Nat} {a1 a2 a3 a4 a5 a6 : Value} {b : Nat} (hd : decode Y.2.1 pc = .ok (.invokespecial idx, 3)) (hL : LkIN Y.1.cls idx Y2 6) (hr : Y2.2.2.2 = none) (hs : Nat.ble (catS rest) 8 = true) (hM : CT G d (0, 0) Y2 (.ref b :: [a1, a2, a3, a4, a5, a6]) M (fun r M' => XJ G (d + 1) k Y M' lv (rpush r rest) (pc + 3) Q)) : XJ G (d + 1) k Y M lv (a6 :: a5 :: a4 :: a3 :: a2 :: a1 :: .ref b :: rest) pc Q :=
  x_callIN [a1, a2, a3, a4, a5, a6] hd hL hr rfl (catS_8 hs) ⟨Nat.zero_le _, Nat.zero_le _⟩ rfl hM
theorem x_rIN6 {Y2 : MR} {idx mc ms : Nat} {a1 a2 a3 a4 a5 a6 : Value} {b : Nat} (hd : decode Y.2.1 pc = .ok (.invokespecial idx, 3)) (hL : LkIN Y.1.cls idx Y2 6) (hr : Y2.2.2.2 = none) (hs : Nat.ble (catS rest) 8 = true) (hk : mc ≤ k.1 ∧ ms ≤ k.2) (hM : CT G d (mc, ms) Y2 (.ref b :: [a1, a2, a3, a4, a5, a6]) M (fun r M' => XJ G (d + 1) (k.1 - mc, k.2 - ms) Y M' lv (rpush r rest) (pc + 3) Q)) : XJ G (d + 1) k Y M lv (a6 :: a5 :: a4 :: a3 :: a2 :: a1 :: .ref b :: rest) pc Q :=
  x_callIN [a1, a2, a3, a4, a5, a6] hd hL hr rfl (catS_8 hs) hk rfl hM
theorem x_cS7 {Y2 : MR} {idx : Nat} {a1 a2 a3 a4 a5 a6 a7 : Value} (hd : decode Y.2.1 pc = .ok (.invokestatic idx, 3)) (hL : LkS Y.1.cls idx Y2 7) (hs : Nat.ble (catS rest) 8 = true) (hM : CT G d (0, 0) Y2 [a1, a2, a3, a4, a5, a6, a7] M (fun r M' => XJ G (d + 1) k Y M' lv (rpush r rest) (pc + 3) Q)) : XJ G (d + 1) k Y M lv (a7 :: a6 :: a5 :: a4 :: a3 :: a2 :: a1 :: rest) pc Q :=
  x_callS [a1, a2, a3, a4, a5, a6, a7] hd hL rfl (catS_8 hs) ⟨Nat.zero_le _, Nat.zero_le _⟩ rfl hM
theorem x_rS7 {Y2 : MR} {idx mc ms : Nat} {a1 a2 a3 a4 a5 a6 a7 : Value} (hd : decode Y.2.1 pc = .ok (.invokestatic idx, 3)) (hL : LkS Y.1.cls idx Y2 7) (hs : Nat.ble (catS rest) 8 = true) (hk : mc ≤ k.1 ∧ ms ≤ k.2) (hM : CT G d (mc, ms) Y2 [a1, a2, a3, a4, a5, a6, a7] M (fun r M' => XJ G (d + 1) (k.1 - mc, k.2 - ms) Y M' lv (rpush r rest) (pc + 3) Q)) : XJ G (d + 1) k Y M lv (a7 :: a6 :: a5 :: a4 :: a3 :: a2 :: a1 :: rest) pc Q :=
  x_callS [a1, a2, a3, a4, a5, a6, a7] hd hL rfl (catS_8 hs) hk rfl hM
theorem x_cSN7 {Y2 : MR} {idx : Nat} {a1 a2 a3 a4 a5 a6 a7 : Value} (hd : decode Y.2.1 pc = .ok (.invokestatic idx, 3)) (hL : LkSN Y.1.cls idx Y2 7) (hs : Nat.ble (catS rest) 8 = true) (hM : CT G d (0, 0) Y2 [a1, a2, a3, a4, a5, a6, a7] M (fun r M' => XJ G (d + 1) k Y M' lv (rpush r rest) (pc + 3) Q)) : XJ G (d + 1) k Y M lv (a7 :: a6 :: a5 :: a4 :: a3 :: a2 :: a1 :: rest) pc Q :=
  x_callSN [a1, a2, a3, a4, a5, a6, a7] hd hL rfl (catS_8 hs) ⟨Nat.zero_le _, Nat.zero_le _⟩ rfl hM
theorem x_rSN7 {Y2 : MR} {idx mc ms : Nat} {a1 a2 a3 a4 a5 a6 a7 : Value} (hd : decode Y.2.1 pc = .ok (.invokestatic idx, 3)) (hL : LkSN Y.1.cls idx Y2 7) (hs : Nat.ble (catS rest) 8 = true) (hk : mc ≤ k.1 ∧ ms ≤ k.2) (hM : CT G d (mc, ms) Y2 [a1, a2, a3, a4, a5, a6, a7] M (fun r M' => XJ G (d + 1) (k.1 - mc, k.2 - ms) Y M' lv (rpush r rest) (pc + 3) Q)) : XJ G (d + 1) k Y M lv (a7 :: a6 :: a5 :: a4 :: a3 :: a2 :: a1 :: rest) pc Q :=
  x_callSN [a1, a2, a3, a4, a5, a6, a7] hd hL rfl (catS_8 hs) hk rfl hM
theorem x_cV7 {Y2 : MR} {idx : Nat} {a1 a2 a3 a4 a5 a6 a7 : Value} {b : Nat} {ci sz : Nat} {f : Nat → Value} {q : vw_C} (hd : decode Y.2.1 pc = .ok (.invokevirtual idx, 3)) (hL : LkV Y.1.cls idx Y2 7) (hb : M b = some (ci, sz, f)) (hq : vwCl[ci]? = some q) (hqc : q.1 = Y2.1.cls) (hs : Nat.ble (catS rest) 8 = true) (hM : CT G d (0, 0) Y2 (.ref b :: [a1, a2, a3, a4, a5, a6, a7]) M (fun r M' => XJ G (d + 1) k Y M' lv (rpush r rest) (pc + 3) Q)) : XJ G (d + 1) k Y M lv (a7 :: a6 :: a5 :: a4 :: a3 :: a2 :: a1 :: .ref b :: rest) pc Q :=
  x_callV [a1, a2, a3, a4, a5, a6, a7] hd hL hb hq hqc rfl (catS_8 hs) ⟨Nat.zero_le _, Nat.zero_le _⟩ rfl hM
theorem x_rV7 {Y2 : MR} {idx mc ms : Nat} {a1 a2 a3 a4 a5 a6 a7 : Value} {b : Nat} {ci sz : Nat} {f : Nat → Value} {q : vw_C} (hd : decode Y.2.1 pc = .ok (.invokevirtual idx, 3)) (hL : LkV Y.1.cls idx Y2 7) (hb : M b = some (ci, sz, f)) (hq : vwCl[ci]? = some q) (hqc : q.1 = Y2.1.cls) (hs : Nat.ble (catS rest) 8 = true) (hk : mc ≤ k.1 ∧ ms ≤ k.2) (hM : CT G d (mc, ms) Y2 (.ref b :: [a1, a2, a3, a4, a5, a6, a7]) M (fun r M' => XJ G (d + 1) (k.1 - mc, k.2 - ms) Y M' lv (rpush r rest) (pc + 3) Q)) : XJ G (d + 1) k Y M lv (a7 :: a6 :: a5 :: a4 :: a3 :: a2 :: a1 :: .ref b :: rest) pc Q :=
  x_callV [a1, a2, a3, a4, a5, a6, a7] hd hL hb hq hqc rfl (catS_8 hs) hk rfl hM
theorem x_cI7 {Y2 : MR} {idx : Nat} {a1 a2 a3 a4 a5 a6 a7 : Value} {b : Nat} (hd : decode Y.2.1 pc = .ok (.invokespecial idx, 3)) (hL : LkI Y.1.cls idx Y2 7) (hr : Y2.2.2.2 = none) (hs : Nat.ble (catS rest) 8 = true) (hM : CT G d (0, 0) Y2 (.ref b :: [a1, a2, a3, a4, a5, a6, a7]) M (fun r M' => XJ G (d + 1) k Y M' lv (rpush r rest) (pc + 3) Q)) : XJ G (d + 1) k Y M lv (a7 :: a6 :: a5 :: a4 :: a3 :: a2 :: a1 :: .ref b :: rest) pc Q :=
  x_callI [a1, a2, a3, a4, a5, a6, a7] hd hL hr rfl (catS_8 hs) ⟨Nat.zero_le _, Nat.zero_le _⟩ rfl hM
theorem x_rI7 {Y2 : MR} {idx mc ms : Nat} {a1 a2 a3 a4 a5 a6 a7 : Value} {b : Nat} (hd : decode Y.2.1 pc = .ok (.invokespecial idx, 3)) (hL : LkI Y.1.cls idx Y2 7) (hr : Y2.2.2.2 = none) (hs : Nat.ble (catS rest) 8 = true) (hk : mc ≤ k.1 ∧ ms ≤ k.2) (hM : CT G d (mc, ms) Y2 (.ref b :: [a1, a2, a3, a4, a5, a6, a7]) M (fun r M' => XJ G (d + 1) (k.1 - mc, k.2 - ms) Y M' lv (rpush r rest) (pc + 3) Q)) : XJ G (d + 1) k Y M lv (a7 :: a6 :: a5 :: a4 :: a3 :: a2 :: a1 :: .ref b :: rest) pc Q :=
  x_callI [a1, a2, a3, a4, a5, a6, a7] hd hL hr rfl (catS_8 hs) hk rfl hM
theorem x_cIN7 {Y2 : MR} {idx : Nat} {a1 a2 a3 a4 a5 a6 a7 : Value} {b : Nat} (hd : decode Y.2.1 pc = .ok (.invokespecial idx, 3)) (hL : LkIN Y.1.cls idx Y2 7) (hr : Y2.2.2.2 = none) (hs : Nat.ble (catS rest) 8 = true) (hM : CT G d (0, 0) Y2 (.ref b :: [a1, a2, a3, a4, a5, a6, a7]) M (fun r M' => XJ G (d + 1) k Y M' lv (rpush r rest) (pc + 3) Q)) : XJ G (d + 1) k Y M lv (a7 :: a6 :: a5 :: a4 :: a3 :: a2 :: a1 :: .ref b :: rest) pc Q :=
  x_callIN [a1, a2, a3, a4, a5, a6, a7] hd hL hr rfl (catS_8 hs) ⟨Nat.zero_le _, Nat.zero_le _⟩ rfl hM
theorem x_rIN7 {Y2 : MR} {idx mc ms : Nat} {a1 a2 a3 a4 a5 a6 a7 : Value} {b : Nat} (hd : decode Y.2.1 pc = .ok (.invokespecial idx, 3)) (hL : LkIN Y.1.cls idx Y2 7) (hr : Y2.2.2.2 = none) (hs : Nat.ble (catS rest) 8 = true) (hk : mc ≤ k.1 ∧ ms ≤ k.2) (hM : CT G d (mc, ms) Y2 (.ref b :: [a1, a2, a3, a4, a5, a6, a7]) M (fun r M' => XJ G (d + 1) (k.1 - mc, k.2 - ms) Y M' lv (rpush r rest) (pc + 3) Q)) : XJ G (d + 1) k Y M lv (a7 :: a6 :: a5 :: a4 :: a3 :: a2 :: a1 :: .ref b :: rest) pc Q :=
  x_callIN [a1, a2, a3, a4, a5, a6, a7] hd hL hr rfl (catS_8 hs) hk rfl hM
end XZ
end
section
/-! cells: fields, arrays, new ones -/
def mset (M : Mem) (a : Nat) (c : Cel) : Mem := fun b => if b = a then some c else M b
theorem mset_eq {M : Mem} {a : Nat} {c : Cel} : mset M a c a = some c := if_pos rfl
theorem mset_ne {M : Mem} {a b : Nat} {c : Cel} (h : b ≠ a) : mset M a c b = M b := if_neg h
theorem updV_eq {f : Nat → Value} {k : Nat} {v : Value} : updV f k v k = v := if_pos rfl
theorem updV_ne {f : Nat → Value} {k j : Nat} {v : Value} (h : j ≠ k) : updV f k v j = f j := if_neg h
def vwTy (ci : Nat) : Nat → FieldType := match ci with
  | 0 => tyJx4a65c
  | 1 => tyX0
  | 2 => tyX1
  | 3 => tyX2
  | 4 => tyX3
  | 5 => tyX4
  | 6 => tyX5
  | 7 => tyX6
  | 8 => tyX7
  | 9 => tyX8
  | 10 => tyX9
  | 11 => tyX10
  | 12 => tyX11
  | _ => tyX12
theorem vw_all {P : Nat → vw_C → Prop} (h0 : P 0 (RJx4a65c, TJx4a65c, 3)) (h1 : P 1 (RX0, TX0, 5)) (h2 : P 2 (RX1, TX1, 7)) (h3 : P 3 (RX2, TX2, 4)) (h4 : P 4 (RX3, TX3, 2)) (h5 : P 5 (RX4, TX4, 4)) (h6 : P 6 (RX5, TX5, 2)) (h7 : P 7 (RX6, TX6, 3)) (h8 : P 8 (RX7, TX7, 3)) (h9 : P 9 (RX8, TX8, 9)) (h10 : P 10 (RX9, TX9, 5)) (h11 : P 11 (RX10, TX10, 3)) (h12 : P 12 (RX11, TX11, 17)) (h13 : P 13 (RX12, TX12, 66)) {ci : Nat} {q : vw_C} (hq : vwCl[ci]? = some q) : P ci q := by
  match ci, hq with
  | 0, hq => cases hq; exact h0
  | 1, hq => cases hq; exact h1
  | 2, hq => cases hq; exact h2
  | 3, hq => cases hq; exact h3
  | 4, hq => cases hq; exact h4
  | 5, hq => cases hq; exact h5
  | 6, hq => cases hq; exact h6
  | 7, hq => cases hq; exact h7
  | 8, hq => cases hq; exact h8
  | 9, hq => cases hq; exact h9
  | 10, hq => cases hq; exact h10
  | 11, hq => cases hq; exact h11
  | 12, hq => cases hq; exact h12
  | 13, hq => cases hq; exact h13
  | ci + 14, hq => simp [vwCl] at hq
theorem vw_lt {ci : Nat} {q : vw_C} (hq : vwCl[ci]? = some q) : ci < 14 := (List.getElem?_eq_some_iff.mp hq).1
theorem vwTy_ok {ci : Nat} {q : vw_C} (hq : vwCl[ci]? = some q) : ∀ k, k < q.2.2 → parseFieldDescriptor (q.2.1 k).2.2.1 = some (vwTy ci k) :=
  vw_all (P := fun ci q => ∀ k, k < q.2.2 → parseFieldDescriptor (q.2.1 k).2.2.1 = some (vwTy ci k)) tyJx4a65c_ok tyX0_ok tyX1_ok tyX2_ok tyX3_ok tyX4_ok tyX5_ok tyX6_ok tyX7_ok tyX8_ok tyX9_ok tyX10_ok tyX11_ok tyX12_ok hq
theorem vwNm_ok {ci : Nat} {q : vw_C} (hq : vwCl[ci]? = some q) : ∀ a, a < q.2.2 → ∀ b, b < q.2.2 → a ≠ b → (q.2.1 a).2.1 ≠ (q.2.1 b).2.1 :=
  vw_all (P := fun _ q => ∀ a, a < q.2.2 → ∀ b, b < q.2.2 → a ≠ b → (q.2.1 a).2.1 ≠ (q.2.1 b).2.1) nmJx4a65c nmX0 nmX1 nmX2 nmX3 nmX4 nmX5 nmX6 nmX7 nmX8 nmX9 nmX10 nmX11 nmX12 hq
theorem tb_r {w : Cond} (h : w ∈ tables_1) : w ∈ lw_tbl := List.mem_append_right _ h
theorem cl_0 : ∀ w ∈ wsJx4a65c0, w ∈ lw_tbl := by decide +kernel
theorem cl_1 : ∀ w ∈ wsX00, w ∈ lw_tbl := by decide +kernel
theorem cl_2 : ∀ w ∈ wsX10, w ∈ lw_tbl := by decide +kernel
theorem cl_3 : ∀ w ∈ wsX20, w ∈ lw_tbl := by decide +kernel
theorem cl_4 : ∀ w ∈ wsX30, w ∈ lw_tbl := by decide +kernel
theorem cl_5 : ∀ w ∈ wsX40, w ∈ lw_tbl := by decide +kernel
theorem cl_6 : ∀ w ∈ wsX50, w ∈ lw_tbl := by decide +kernel
theorem cl_7 : ∀ w ∈ wsX60, w ∈ lw_tbl := by decide +kernel
theorem cl_8 : ∀ w ∈ wsX70, w ∈ lw_tbl := by decide +kernel
theorem cl_9 : ∀ w ∈ wsX80, w ∈ lw_tbl := by decide +kernel
theorem cl_10 : ∀ w ∈ wsX90, w ∈ lw_tbl := by decide +kernel
theorem cl_11 : ∀ w ∈ wsX100, w ∈ lw_tbl := by decide +kernel
theorem cl_12 : ∀ w ∈ wsX110, w ∈ lw_tbl := by decide +kernel
theorem cl_13 : ∀ w ∈ wsX120, w ∈ lw_tbl := by decide +kernel
theorem cl_in {ci : Nat} {q : vw_C} (hq : vwCl[ci]? = some q) : ∀ w ∈ u_ws q.1 q.2.1 q.2.2, w ∈ lw_tbl :=
  vw_all (P := fun _ q => ∀ w ∈ u_ws q.1 q.2.1 q.2.2, w ∈ lw_tbl) cl_0 cl_1 cl_2 cl_3 cl_4 cl_5 cl_6 cl_7 cl_8 cl_9 cl_10 cl_11 cl_12 cl_13 hq
theorem cl_ini {ci : Nat} {q : vw_C} (hq : vwCl[ci]? = some q) : Cond.instantiable q.1 q.2.2 ∈ lw_tbl ∧ Cond.initialized q.1 ∈ lw_tbl :=
  vw_all (P := fun _ q => Cond.instantiable q.1 q.2.2 ∈ lw_tbl ∧ Cond.initialized q.1 ∈ lw_tbl) (by decide +kernel) (by decide +kernel) (by decide +kernel) (by decide +kernel) (by decide +kernel) (by decide +kernel) (by decide +kernel) (by decide +kernel) (by decide +kernel) (by decide +kernel) (by decide +kernel) (by decide +kernel) (by decide +kernel) (by decide +kernel) hq
theorem cl_hts {G : Gam} {args : Array Value} {s : State} (hB : BaseOK G) (hW : G.2.1.WarmedH s.vm) {ci : Nat} {q : vw_C} (hq : vwCl[ci]? = some q) : ∀ w ∈ u_ws q.1 q.2.1 q.2.2, w.before args s = true := by
  intro w hw
  refine tb_good hB (cl_in hq w hw) ?_ hW
  unfold u_ws at hw
  obtain ⟨j, -, rfl⟩ := List.mem_map.mp hw
  unfold u_lay
  split <;> rfl
def LkF (own : String) (idx ci k : Nat) : Prop := ∃ q : vw_C, vwCl[ci]? = some q ∧ k < q.2.2 ∧ (Cond.fieldLink own idx q.1 (q.2.1 k).2.1 (q.2.1 k).2.2.1 ∈ lw_tbl ∨ ∃ host, Cond.fieldLinkNest own idx q.1 (q.2.1 k).2.1 (q.2.1 k).2.2.1 host ∈ lw_tbl) ∧ ((q.2.1 k).1 = q.1 ∨ Cond.sameField q.1 (q.2.1 k).1 (q.2.1 k).2.1 (q.2.1 k).2.2.1 ∈ lw_tbl)
def LkP (own : String) (idx ci k : Nat) : Prop := ∃ q : vw_C, vwCl[ci]? = some q ∧ k < q.2.2 ∧ Cond.fieldLink own idx q.1 (q.2.1 k).2.1 (q.2.1 k).2.2.1 ∈ lw_tbl ∧ ((q.2.1 k).1 = q.1 ∨ Cond.sameField q.1 (q.2.1 k).1 (q.2.1 k).2.1 (q.2.1 k).2.2.1 ∈ lw_tbl) ∧ (q.2.1 k).2.2.2 = false
def LkPF (own : String) (idx ci k : Nat) : Prop := ∃ q : vw_C, vwCl[ci]? = some q ∧ k < q.2.2 ∧ Cond.fieldLink own idx q.1 (q.2.1 k).2.1 (q.2.1 k).2.2.1 ∈ lw_tbl ∧ (q.2.1 k).1 = own ∧ q.1 = own ∧ (q.2.1 k).2.2.2 = true
theorem same_of {G : Gam} {args : Array Value} {s : State} {C O n dd : String} (hB : BaseOK G) (hW : G.2.1.WarmedH s.vm) (h : O = C ∨ Cond.sameField C O n dd ∈ lw_tbl) : ∀ x, s.fieldFound? O n dd = some x → s.fieldFound? C n dd = some x := by
  rcases h with h | h
  · subst h; exact fun _ z => z
  · exact fun x z => u_same (tb_good (args := args) hB h rfl hW) x z
theorem cAt_obj {D : va_G} {tA : Nat → ClassId} {a ci n : Nat} {f : Nat → Value} {H : Heap} {q : vw_C} (h : cAt D tA a (ci, n, f) H) (hq : vwCl[ci]? = some q) : q.2.2 = n ∧ t_OB a (D.1 ci) q.2.2 (D.2 ci) H f := by
  rcases h with ⟨-, q', h1, h2, h3⟩ | ⟨h1, -⟩
  · cases h1.symm.trans hq
    exact ⟨h2, h3⟩
  · exact absurd h1 (by have := vw_lt hq; show ¬ 100 ≤ ci; omega)
theorem cAt_arr {D : va_G} {tA : Nat → ClassId} {a ci n : Nat} {f : Nat → Value} {H : Heap} (h : cAt D tA a (ci, n, f) H) (hq : 100 ≤ ci) : H[a]? = some (arrV (tA ci) n f) := by
  rcases h with ⟨h1, -⟩ | ⟨-, h2⟩
  · exact absurd h1 (by show ¬ ci < 100; omega)
  · exact h2
theorem cAt_lt {D : va_G} {tA : Nat → ClassId} {a : Nat} {c : Cel} {H : Heap} (h : cAt D tA a c H) : a < H.size := by
  rcases h with ⟨-, q, -, -, cell, h, -⟩ | ⟨-, h⟩
  · exact (Array.getElem?_eq_some_iff.mp h).1
  · exact (Array.getElem?_eq_some_iff.mp h).1
theorem cAt_kept {D : va_G} {tA : Nat → ClassId} {a : Nat} {c : Cel} {H H1 : Heap} (h : cAt D tA a c H) (hq : H1[a]? = H[a]?) : cAt D tA a c H1 := by
  rcases h with ⟨h1, q, h2, h3, h4⟩ | ⟨h1, h2⟩
  · exact Or.inl ⟨h1, q, h2, h3, h4.kept hq⟩
  · exact Or.inr ⟨h1, hq.trans h2⟩
theorem arrK_w {G : Gam} (hB : BaseOK G) {s : State} (hW : G.2.1.WarmedH s.vm) {k : Nat} (h1 : 100 ≤ k) (h2 : k < 107) : ArrOfT s (G.2.2.2 k) (tyA k) := arrOfT_moved hW.alike (hB.2.2 k h1 h2).1
/-- the memory behind one cell's change -/
theorem XH_set {G : Gam} {k : Nat × Nat} {M : Mem} {R : Room} {s : State} {A : Nat → Prop} {H H1 : Heap} {locs : List Loc} {cells slots a j : Nat} {c0 c : Cel} (hH : XH G k M R s A H locs cells slots) (hM : M a = some c0) (hz : H1.size = H.size) (hq : ∀ q, q ≠ a → H1[q]? = H[q]?) (hc : cAt G.2.2.1 G.2.2.2 a c H1) : XH G k (mset M a c) R s A H1 (locs ++ [⟨a, j⟩]) cells slots := by
  refine ⟨fun b e he => ?_, fun b e he => ?_, hH.2.2.1.put hz hq (hH.2.1 a c0 hM), hH.2.2.2⟩
  · by_cases hb : b = a
    · subst hb
      rw [mset_eq] at he
      cases he
      exact ⟨(hH.1 b c0 hM).1, hc⟩
    · rw [mset_ne hb] at he
      exact ⟨(hH.1 b e he).1, cAt_kept (hH.1 b e he).2 (hq b hb)⟩
  · by_cases hb : b = a
    · subst hb; exact hH.2.1 b c0 hM
    · rw [mset_ne hb] at he; exact hH.2.1 b e he
/-- the memory behind a new cell -/
theorem XH_new {G : Gam} {k : Nat × Nat} {M : Mem} {R : Room} {s : State} {A : Nat → Prop} {H H1 : Heap} {locs : List Loc} {cells slots mc ms : Nat} {c : Cel} (hO : OldOK G s.heap) (hA : ∀ q, s.heap.size ≤ q → A q) (hH : XH G k M R s A H locs cells slots) (hz : H.size ≤ H1.size) (hq : ∀ q, q < H.size → H1[q]? = H[q]?) (hc : cAt G.2.2.1 G.2.2.2 H.size c H1) (hk : mc ≤ k.1 ∧ ms ≤ k.2) : XH G (k.1 - mc, k.2 - ms) (mset M H.size c) R s A H1 locs (cells + mc) (slots + ms) := by
  refine ⟨fun b e he => ?_, fun b e he => ?_, ⟨Nat.le_trans hH.2.2.1.1 hz, fun q h1 h2 => (hq q (Nat.lt_of_lt_of_le h1 hH.2.2.1.1)).trans (hH.2.2.1.2.1 q h1 h2), hH.2.2.1.2.2⟩, ?_, ?_⟩
  · by_cases hb : b = H.size
    · subst hb
      rw [mset_eq] at he
      cases he
      exact ⟨Nat.le_trans hO.1 hH.2.2.1.1, hc⟩
    · rw [mset_ne hb] at he
      exact ⟨(hH.1 b e he).1, cAt_kept (hH.1 b e he).2 (hq b (cAt_lt (hH.1 b e he).2))⟩
  · by_cases hb : b = H.size
    · subst hb; exact hA _ hH.2.2.1.1
    · rw [mset_ne hb] at he; exact hH.2.1 b e he
  · have := hH.2.2.2.1; show cells + mc + (k.1 - mc) ≤ _; have := hk.1; omega
  · have := hH.2.2.2.2; show slots + ms + (k.2 - ms) ≤ _; have := hk.2; omega
theorem fresh_of {G : Gam} {k : Nat × Nat} {M : Mem} {R : Room} {s : State} {A : Nat → Prop} {H : Heap} {locs : List Loc} {cells slots : Nat} (hH : XH G k M R s A H locs cells slots) : M H.size = none := by
  cases h : M H.size with
  | none => rfl
  | some c => exact absurd (cAt_lt (hH.1 _ c h).2) (Nat.lt_irrefl _)
section XF
variable {G : Gam} {d : Nat} {k : Nat × Nat} {Y : MR} {M : Mem} {lv : Lv} {st : List Value} {pc : Nat} {Q : Option Value → Mem → Prop}
theorem x_getf {idx ci kf n a : Nat} {f : Nat → Value} {v : Value} (hd : decode Y.2.1 pc = .ok (.getfield idx, 3)) (hlk : LkF Y.1.cls idx ci kf) (hM : M a = some (ci, n, f)) (hv : f kf = v) (kk : XJ G d k Y M lv (v :: st) (pc + 3) Q) : XJ G d k Y M lv (.ref a :: st) pc Q := by
  intro p e R s m args below meth c H locs cells slots A ls hC hH hl
  obtain ⟨q, hq, hk, hlink, hsm⟩ := hlk
  have hW := hC.2.2.2.2.2.2.2.2.1
  obtain ⟨-, cell, q1, q2, q3, q4⟩ := cAt_obj (hH.1 a _ hM).2 hq
  obtain ⟨hS, hfc, kC, hkC, hkind⟩ := (bs_K hC.1 hW).1 ci _ hq
  obtain ⟨cf, kf', fi, fd, hi, hsl⟩ := hS kf hk
  have hts := cl_hts (args := args) hC.1 hW hq
  have hst := (u_facts hfc hkC (u_lays hts (fun w h => h) hk) hi).1
  have hslot : cell.slots[fd.slot]? = some v := by rw [hsl, q4 kf hk, hv]
  have hkn : cell.vm ≠ .unknown := by rw [q3]; exact fun h => by cases h
  have hi' := same_of (args := args) hC.1 hW hsm _ hi
  have kk' := kk p e R s m args below meth c H locs cells slots A ls hC hH hl
  rcases hlink with hlink | ⟨host, hlink⟩
  · exact W.getf hC.2.1 hC.2.2.1 hC.2.2.2.2.2.1 (tb_good hC.1 hlink rfl hW) hi' hst q1 hkn hslot rfl rfl hd kk'
  · exact va_Wgetf hC.2.1 hC.2.2.1 hC.2.2.2.2.2.1 (tb_nestF hC.1 hlink hW) hi' hst q1 hkn hslot rfl rfl hd kk'
theorem vw_apart {s : State} {args : Array Value} {D : va_G} {ci : Nat} {q : vw_C} (hq : vwCl[ci]? = some q) (hts : ∀ w ∈ u_ws q.1 q.2.1 q.2.2, w.before args s = true) (hK : va_K D vwCl [] s) : ∀ x y, x < q.2.2 → y < q.2.2 → x ≠ y → D.2 ci x ≠ D.2 ci y :=
  va_apart (own := "") hts (fun w h => h) (vwTy ci) (vwTy_ok hq) (vwNm_ok hq) hK hq
theorem x_putf {idx ci kf n a : Nat} {f : Nat → Value} {v : Value} (hd : decode Y.2.1 pc = .ok (.putfield idx, 3)) (hlk : LkP Y.1.cls idx ci kf) (hM : M a = some (ci, n, f)) (hn : narrow (vwTy ci kf) v = v) (hfit : fits (vwTy ci kf) v = true) (kk : XJ G d k Y (mset M a (ci, n, updV f kf v)) lv st (pc + 3) Q) : XJ G d k Y M lv (v :: .ref a :: st) pc Q := by
  intro p e R s m args below meth c H locs cells slots A ls hC hH hl
  obtain ⟨q, hq, hk, hlink, hsm, hfin⟩ := hlk
  have hW := hC.2.2.2.2.2.2.2.2.1
  obtain ⟨hN, cell, q1, q2, q3, q4⟩ := cAt_obj (hH.1 a _ hM).2 hq
  have hKK := bs_K hC.1 hW
  obtain ⟨hS, hfc, kC, hkC, hkind⟩ := hKK.1 ci _ hq
  obtain ⟨cf, kf', fi, fd, hi, hsl⟩ := hS kf hk
  have hts := cl_hts (args := args) hC.1 hW hq
  have hap := vw_apart hq hts hKK
  have hst := (u_facts hfc hkC (u_lays hts (fun w h => h) hk) hi).1
  have hlay := hts _ (u_in_lay hk)
  unfold u_lay at hlay
  rw [if_neg (by rw [hfin]; decide)] at hlay
  have h6 := u_store hfc hkC hkind hlay hi (vwTy_ok hq kf hk) hn hfit
  refine W.putK hC.2.1 hC.2.2.1 (f := fd) ⟨hC.2.2.2.2.2.1, tb_good hC.1 hlink rfl hW, ⟨_, _, _, same_of (args := args) hC.1 hW hsm _ hi⟩, hst⟩ (by rw [q2]; exact h6) q1 q3 (by rw [hsl]; exact k2_hasslot (q4 kf hk)) rfl rfl hd fun H' e1 e2 e3 => ?_
  rw [hsl] at e1 ⊢
  refine kk p e R s m args below meth c H' _ cells slots A ls hC (XH_set hH hM e2 e3 ?_) hl
  exact Or.inl ⟨Nat.lt_of_lt_of_le (vw_lt hq) (by decide), q, hq, hN, _, e1, q2, q3, t_set q4 hap hk v⟩
theorem x_putF {idx ci kf n a : Nat} {f : Nat → Value} {v : Value} (hd : decode Y.2.1 pc = .ok (.putfield idx, 3)) (hlk : LkPF Y.1.cls idx ci kf) (hini : Y.1.name = "<init>") (hM : M a = some (ci, n, f)) (hn : narrow (vwTy ci kf) v = v) (hfit : fits (vwTy ci kf) v = true) (kk : XJ G d k Y (mset M a (ci, n, updV f kf v)) lv st (pc + 3) Q) : XJ G d k Y M lv (v :: .ref a :: st) pc Q := by
  intro p e R s m args below meth c H locs cells slots A ls hC hH hl
  obtain ⟨q, hq, hk, hlink, hdecl, hown2, hfin⟩ := hlk
  have hW := hC.2.2.2.2.2.2.2.2.1
  obtain ⟨hN, cell, q1, q2, q3, q4⟩ := cAt_obj (hH.1 a _ hM).2 hq
  have hKK := bs_K hC.1 hW
  obtain ⟨hS, hfc, kC, hkC, hkind⟩ := hKK.1 ci _ hq
  obtain ⟨cf, kf', fi, fd, hi, hsl⟩ := hS kf hk
  have hts := cl_hts (args := args) hC.1 hW hq
  have hap := vw_apart hq hts hKK
  have hst := (u_facts hfc hkC (u_lays hts (fun w h => h) hk) hi).1
  have h6 := u_fits hfc hkC hkind (u_lays hts (fun w h => h) hk) hi (vwTy_ok hq kf hk) hn hfit
  have hi' : s.fieldFound? q.1 (q.2.1 kf).2.1 (q.2.1 kf).2.2.1 = some (cf, kf', fi, fd) := by rw [hown2, ← hdecl]; exact hi
  have hlay := hts _ (u_in_lay hk)
  unfold u_lay at hlay
  rw [if_pos hfin] at hlay
  have hcf : m.cls = cf := by
    obtain ⟨_, _, c', _, _, _, -, -, hf', -, -, -, hown3, -⟩ := Cond.laysFinal_spec hlay
    have e1 : c' = cf := by have := hi.symm.trans hf'; simp at this; exact this.1.symm
    rw [hdecl] at hown3
    rw [← e1]; exact Option.some.inj (hC.2.2.2.2.2.1.symm.trans hown3)
  refine W.putFinK hC.2.1 hC.2.2.1 hC.2.2.2.2.2.1 (tb_good hC.1 hlink rfl hW) hi' hst hcf (hC.2.2.2.2.2.2.2.1.trans hini) (by rw [q2]; exact h6) q1 q3 (by rw [hsl]; exact k2_hasslot (q4 kf hk)) rfl rfl hd fun H' e1 e2 e3 => ?_
  rw [hsl] at e1 ⊢
  refine kk p e R s m args below meth c H' _ cells slots A ls hC (XH_set hH hM e2 e3 ?_) hl
  exact Or.inl ⟨Nat.lt_of_lt_of_le (vw_lt hq) (by decide), q, hq, hN, _, e1, q2, q3, t_set q4 hap hk v⟩
end XF
end
section
/-! arrays, new objects, casts, constants, references, switches -/
theorem cb8 (t : FieldType) : componentBytes t ≤ 8 := by cases t <;> simp [componentBytes]
section XA
variable {G : Gam} {d : Nat} {k : Nat × Nat} {Y : MR} {M : Mem} {lv : Lv} {st : List Value} {pc : Nat} {Q : Option Value → Mem → Prop}
theorem arr_in {cA : ClassId} {n : Nat} {f : Nat → Value} {i : Int32} (h : vp_in i n) : ¬ (i < 0 ∨ (arrV cA n f).slots.size ≤ i.toNatClampNeg) := by rw [arrV_size]; exact h
theorem arr_rd {cA : ClassId} {n : Nat} {f : Nat → Value} {i : Int32} {v : Value} (h : vp_in i n) (hv : f i.toNatClampNeg = v) : (arrV cA n f).slots[i.toNatClampNeg]? = some v := by
  rw [arrV_read _ _ (Nat.not_le.mp fun q => h (Or.inr q)), hv]
theorem x_iaload {n a : Nat} {f : Nat → Value} {i : Int32} {v : Value} (hd : decode Y.2.1 pc = .ok (.iaload, 1)) (hM : M a = some (100, n, f)) (hin : vp_in i n) (hv : f i.toNatClampNeg = v) (kk : XJ G d k Y M lv (v :: st) (pc + 1) Q) : XJ G d k Y M lv (.int i :: .ref a :: st) pc Q := by
  intro p e R s m args below meth c H locs cells slots A ls hC hH hl
  have hW := hC.2.2.2.2.2.2.2.2.1
  exact W.iald hC.2.1 hC.2.2.1 (cAt_arr (hH.1 a _ hM).2 (by decide)) ((arrK_w hC.1 hW (k := 100) (by decide) (by decide)) n f) (fun z => by cases z) (arr_in hin) (arr_rd hin hv) rfl rfl hd (kk p e R s m args below meth c H locs cells slots A ls hC hH hl)
theorem x_baload {n a : Nat} {f : Nat → Value} {i : Int32} {v : Value} (hd : decode Y.2.1 pc = .ok (.baload, 1)) (hM : M a = some (101, n, f)) (hin : vp_in i n) (hv : f i.toNatClampNeg = v) (kk : XJ G d k Y M lv (v :: st) (pc + 1) Q) : XJ G d k Y M lv (.int i :: .ref a :: st) pc Q := by
  intro p e R s m args below meth c H locs cells slots A ls hC hH hl
  have hW := hC.2.2.2.2.2.2.2.2.1
  exact W.bald hC.2.1 hC.2.2.1 (cAt_arr (hH.1 a _ hM).2 (by decide)) ((arrK_w hC.1 hW (k := 101) (by decide) (by decide)) n f) (fun z => by cases z) (arr_in hin) (arr_rd hin hv) rfl rfl hd (kk p e R s m args below meth c H locs cells slots A ls hC hH hl)
theorem x_zaload {n a : Nat} {f : Nat → Value} {i : Int32} {v : Value} (hd : decode Y.2.1 pc = .ok (.baload, 1)) (hM : M a = some (103, n, f)) (hin : vp_in i n) (hv : f i.toNatClampNeg = v) (kk : XJ G d k Y M lv (v :: st) (pc + 1) Q) : XJ G d k Y M lv (.int i :: .ref a :: st) pc Q := by
  intro p e R s m args below meth c H locs cells slots A ls hC hH hl
  have hW := hC.2.2.2.2.2.2.2.2.1
  exact W.zald hC.2.1 hC.2.2.1 (cAt_arr (hH.1 a _ hM).2 (by decide)) ((arrK_w hC.1 hW (k := 103) (by decide) (by decide)) n f) (fun z => by cases z) (arr_in hin) (arr_rd hin hv) rfl rfl hd (kk p e R s m args below meth c H locs cells slots A ls hC hH hl)
theorem x_caload {n a : Nat} {f : Nat → Value} {i : Int32} {v : Value} (hd : decode Y.2.1 pc = .ok (.caload, 1)) (hM : M a = some (102, n, f)) (hin : vp_in i n) (hv : f i.toNatClampNeg = v) (kk : XJ G d k Y M lv (v :: st) (pc + 1) Q) : XJ G d k Y M lv (.int i :: .ref a :: st) pc Q := by
  intro p e R s m args below meth c H locs cells slots A ls hC hH hl
  have hW := hC.2.2.2.2.2.2.2.2.1
  exact W.cald hC.2.1 hC.2.2.1 (cAt_arr (hH.1 a _ hM).2 (by decide)) ((arrK_w hC.1 hW (k := 102) (by decide) (by decide)) n f) (fun z => by cases z) (arr_in hin) (arr_rd hin hv) rfl rfl hd (kk p e R s m args below meth c H locs cells slots A ls hC hH hl)
theorem x_laload {n a : Nat} {f : Nat → Value} {i : Int32} {v : Value} (hd : decode Y.2.1 pc = .ok (.laload, 1)) (hM : M a = some (104, n, f)) (hin : vp_in i n) (hv : f i.toNatClampNeg = v) (kk : XJ G d k Y M lv (v :: st) (pc + 1) Q) : XJ G d k Y M lv (.int i :: .ref a :: st) pc Q := by
  intro p e R s m args below meth c H locs cells slots A ls hC hH hl
  have hW := hC.2.2.2.2.2.2.2.2.1
  exact W.lald hC.2.1 hC.2.2.1 (cAt_arr (hH.1 a _ hM).2 (by decide)) ((arrK_w hC.1 hW (k := 104) (by decide) (by decide)) n f) (fun z => by cases z) (arr_in hin) (arr_rd hin hv) rfl rfl hd (kk p e R s m args below meth c H locs cells slots A ls hC hH hl)
theorem x_aaload {n a ci : Nat} {f : Nat → Value} {i : Int32} {v : Value} (hd : decode Y.2.1 pc = .ok (.aaload, 1)) (hci : ci = 105 ∨ ci = 106) (hM : M a = some (ci, n, f)) (hin : vp_in i n) (hv : f i.toNatClampNeg = v) (kk : XJ G d k Y M lv (v :: st) (pc + 1) Q) : XJ G d k Y M lv (.int i :: .ref a :: st) pc Q := by
  intro p e R s m args below meth c H locs cells slots A ls hC hH hl
  have hW := hC.2.2.2.2.2.2.2.2.1
  have h1 : 100 ≤ ci := by omega
  have h2 : ci < 107 := by omega
  have h3 : (tyA ci).isReference = true := by rcases hci with rfl | rfl <;> rfl
  exact W.aald hC.2.1 hC.2.2.1 (cAt_arr (hH.1 a _ hM).2 h1) ((arrK_w hC.1 hW (k := ci) h1 h2) n f) h3 (fun z => by cases z) (arr_in hin) (arr_rd hin hv) rfl rfl hd (kk p e R s m args below meth c H locs cells slots A ls hC hH hl)
theorem arr_st {D : va_G} {tA : Nat → ClassId} {a ci n i : Nat} {f : Nat → Value} {v : Value} {H1 : Heap} (h : 100 ≤ ci) (h1 : H1[a]? = some ((arrV (tA ci) n f).setSlot i v)) : cAt D tA a (ci, n, updV f i v) H1 :=
  Or.inr ⟨h, by rw [h1, arrV_store]⟩
theorem x_iastore {n a : Nat} {f : Nat → Value} {i x : Int32} (hd : decode Y.2.1 pc = .ok (.iastore, 1)) (hM : M a = some (100, n, f)) (hin : vp_in i n) (kk : XJ G d k Y (mset M a (100, n, updV f i.toNatClampNeg (.int x))) lv st (pc + 1) Q) : XJ G d k Y M lv (.int x :: .int i :: .ref a :: st) pc Q := by
  intro p e R s m args below meth c H locs cells slots A ls hC hH hl
  have hW := hC.2.2.2.2.2.2.2.2.1
  exact W.iast hC.2.1 hC.2.2.1 (cAt_arr (hH.1 a _ hM).2 (by decide)) ((arrK_w hC.1 hW (k := 100) (by decide) (by decide)) n f) (fun z => by cases z) (arr_in hin) rfl rfl hd (fun H1 e1 e2 e3 => kk p e R s m args below meth c H1 _ cells slots A ls hC (XH_set hH hM e2 e3 (arr_st (by decide) e1)) hl)
theorem x_bastore {n a : Nat} {f : Nat → Value} {i x : Int32} (hd : decode Y.2.1 pc = .ok (.bastore, 1)) (hM : M a = some (101, n, f)) (hin : vp_in i n) (kk : XJ G d k Y (mset M a (101, n, updV f i.toNatClampNeg (.int x.toInt8.toInt32))) lv st (pc + 1) Q) : XJ G d k Y M lv (.int x :: .int i :: .ref a :: st) pc Q := by
  intro p e R s m args below meth c H locs cells slots A ls hC hH hl
  have hW := hC.2.2.2.2.2.2.2.2.1
  exact W.bast hC.2.1 hC.2.2.1 (cAt_arr (hH.1 a _ hM).2 (by decide)) ((arrK_w hC.1 hW (k := 101) (by decide) (by decide)) n f) (fun z => by cases z) (arr_in hin) rfl rfl hd (fun H1 e1 e2 e3 => kk p e R s m args below meth c H1 _ cells slots A ls hC (XH_set hH hM e2 e3 (arr_st (by decide) e1)) hl)
theorem x_zastore {n a : Nat} {f : Nat → Value} {i x : Int32} (hd : decode Y.2.1 pc = .ok (.bastore, 1)) (hM : M a = some (103, n, f)) (hin : vp_in i n) (kk : XJ G d k Y (mset M a (103, n, updV f i.toNatClampNeg (.int (x &&& 1)))) lv st (pc + 1) Q) : XJ G d k Y M lv (.int x :: .int i :: .ref a :: st) pc Q := by
  intro p e R s m args below meth c H locs cells slots A ls hC hH hl
  have hW := hC.2.2.2.2.2.2.2.2.1
  exact W.zast hC.2.1 hC.2.2.1 (cAt_arr (hH.1 a _ hM).2 (by decide)) ((arrK_w hC.1 hW (k := 103) (by decide) (by decide)) n f) (fun z => by cases z) (arr_in hin) rfl rfl hd (fun H1 e1 e2 e3 => kk p e R s m args below meth c H1 _ cells slots A ls hC (XH_set hH hM e2 e3 (arr_st (by decide) e1)) hl)
theorem x_castore {n a : Nat} {f : Nat → Value} {i x : Int32} (hd : decode Y.2.1 pc = .ok (.castore, 1)) (hM : M a = some (102, n, f)) (hin : vp_in i n) (kk : XJ G d k Y (mset M a (102, n, updV f i.toNatClampNeg (.int x.toUInt32.toUInt16.toUInt32.toInt32))) lv st (pc + 1) Q) : XJ G d k Y M lv (.int x :: .int i :: .ref a :: st) pc Q := by
  intro p e R s m args below meth c H locs cells slots A ls hC hH hl
  have hW := hC.2.2.2.2.2.2.2.2.1
  exact W.cast hC.2.1 hC.2.2.1 (cAt_arr (hH.1 a _ hM).2 (by decide)) ((arrK_w hC.1 hW (k := 102) (by decide) (by decide)) n f) (fun z => by cases z) (arr_in hin) rfl rfl hd (fun H1 e1 e2 e3 => kk p e R s m args below meth c H1 _ cells slots A ls hC (XH_set hH hM e2 e3 (arr_st (by decide) e1)) hl)
theorem x_lastore {n a : Nat} {f : Nat → Value} {i : Int32} {x : Int64} (hd : decode Y.2.1 pc = .ok (.lastore, 1)) (hM : M a = some (104, n, f)) (hin : vp_in i n) (kk : XJ G d k Y (mset M a (104, n, updV f i.toNatClampNeg (.long x))) lv st (pc + 1) Q) : XJ G d k Y M lv (.long x :: .int i :: .ref a :: st) pc Q := by
  intro p e R s m args below meth c H locs cells slots A ls hC hH hl
  have hW := hC.2.2.2.2.2.2.2.2.1
  exact W.last hC.2.1 hC.2.2.1 (cAt_arr (hH.1 a _ hM).2 (by decide)) ((arrK_w hC.1 hW (k := 104) (by decide) (by decide)) n f) (fun z => by cases z) (arr_in hin) rfl rfl hd (fun H1 e1 e2 e3 => kk p e R s m args below meth c H1 _ cells slots A ls hC (XH_set hH hM e2 e3 (arr_st (by decide) e1)) hl)
theorem x_alen {n a ci : Nat} {f : Nat → Value} (hd : decode Y.2.1 pc = .ok (.arraylength, 1)) (h1 : 100 ≤ ci) (h2 : ci < 107) (hM : M a = some (ci, n, f)) (kk : XJ G d k Y M lv (.int (nI n) :: st) (pc + 1) Q) : XJ G d k Y M lv (.ref a :: st) pc Q := by
  intro p e R s m args below meth c H locs cells slots A ls hC hH hl
  have hW := hC.2.2.2.2.2.2.2.2.1
  exact W.alen (n := nI n) hC.2.1 hC.2.2.1 (cAt_arr (hH.1 a _ hM).2 h1) ((arrK_w hC.1 hW (k := ci) h1 h2) n f) (by rw [arrV_size]; rfl) rfl rfl hd (kk p e R s m args below meth c H locs cells slots A ls hC hH hl)
/-- new C: a fresh address -/
theorem x_new {idx ci : Nat} {q : vw_C} (hd : decode Y.2.1 pc = .ok (.new idx, 3)) (hq : vwCl[ci]? = some q) (hcl : Cond.classLink Y.1.cls idx q.1 ∈ lw_tbl) (hk : 1 ≤ k.1 ∧ q.2.2 ≤ k.2) (kk : ∀ h : Nat, M h = none → XJ G d (k.1 - 1, k.2 - q.2.2) Y (mset M h (ci, q.2.2, fun j => defaultValue (vwTy ci j))) lv (.ref h :: st) (pc + 3) Q) : XJ G d k Y M lv st pc Q := by
  intro p e R s m args below meth c H locs cells slots A ls hC hH hl
  have hW := hC.2.2.2.2.2.2.2.2.1
  have hKn := (bs_K hC.1 hW).1 ci _ hq
  have hts := cl_hts (args := args) hC.1 hW hq
  refine W.newcK hC.2.1 hC.2.2.1 hC.2.2.2.2.2.1 (tb_good hC.1 hcl rfl hW) (tb_good hC.1 (cl_ini hq).1 rfl hW) (tb_good hC.1 (cl_ini hq).2 rfl hW) rfl hd (Nat.le_trans (Nat.add_le_add_left hk.1 _) hH.2.2.2.1) (Nat.le_trans (Nat.add_le_add_left hk.2 _) hH.2.2.2.2) hKn.2.1 rfl fun H1 kC hkC e1 z1 o1 => ?_
  refine kk H.size (fresh_of hH) p e R s m args below meth c H1 locs (cells + 1) (slots + q.2.2) A ls hC (XH_new hC.2.2.2.2.2.2.2.2.2.2.2.2.2 hC.2.2.2.2.2.2.2.2.2.2.2.1 hH (by rw [z1]; exact Nat.le_succ _) o1 ?_ hk) hl
  exact Or.inl ⟨Nat.lt_of_lt_of_le (vw_lt hq) (by decide), q, hq, rfl, u_born (vwTy ci) hts (fun w h => h) hKn hkC e1 (vwTy_ok hq)⟩
theorem x_newa {at0 : ArrayType} {ci N : Nat} {i : Int32} (hd : decode Y.2.1 pc = .ok (.newarray at0, 2)) (hty : newarray.typeOf at0 = tyA ci) (h1 : 100 ≤ ci) (h2 : ci < 105) (hw : Cond.arrayClass (newarray.typeOf at0) ∈ lw_tbl) (hn : ¬ i < 0) (hN : i.toNatClampNeg = N) (hb : N ≤ 60000) (hk : 1 ≤ k.1 ∧ N ≤ k.2) (kk : ∀ h : Nat, M h = none → XJ G d (k.1 - 1, k.2 - N) Y (mset M h (ci, N, fun _ => defaultValue (tyA ci))) lv (.ref h :: st) (pc + 2) Q) : XJ G d k Y M lv (.int i :: st) pc Q := by
  intro p e R s m args below meth c H locs cells slots A ls hC hH hl
  have hW := hC.2.2.2.2.2.2.2.2.1
  refine va_newaK hC.2.1 hC.2.2.1 (tb_good hC.1 hw rfl hW) rfl hd rfl hn hN (by rw [hty]; exact Nat.le_trans (Nat.mul_le_mul hb (cb8 (tyA ci))) (by decide)) (Nat.le_trans (Nat.add_le_add_left hk.1 _) hH.2.2.2.1) (Nat.le_trans (Nat.add_le_add_left hk.2 _) hH.2.2.2.2) rfl fun H1 cA e1 z1 o1 hAr hNm => ?_
  have hcA : cA = G.2.2.2 ci := by
    have h9 := (hC.1.2.2 ci h1 (by omega)).2.1
    rw [hty] at hNm
    have h8 : s.vm.findClass ("[" ++ (tyA ci).toString) = some (G.2.2.2 ci) := by rw [hW.alike.findClass]; exact h9
    exact Option.some.inj (hNm.symm.trans h8)
  refine kk H.size (fresh_of hH) p e R s m args below meth c H1 locs (cells + 1) (slots + N) A ls hC (XH_new hC.2.2.2.2.2.2.2.2.2.2.2.2.2 hC.2.2.2.2.2.2.2.2.2.2.2.1 hH (by rw [z1]; exact Nat.le_succ _) o1 ?_ hk) hl
  exact Or.inr ⟨h1, by rw [e1, hcA, hty]⟩
theorem x_objInit {idx a : Nat} (hd : decode Y.2.1 pc = .ok (.invokespecial idx, 3)) (hl1 : Cond.methodLink Y.1.cls idx Lib.objectInit ∈ lw_tbl) (hs : (st.map fun v => v.category).sum ≤ 8) (kk : XJ G (d + 1) k Y M lv st (pc + 3) Q) : XJ G (d + 1) k Y M lv (.ref a :: st) pc Q := by
  intro p e R s m args below meth c H locs cells slots A ls hC hH hl
  have hW := hC.2.2.2.2.2.2.2.2.1
  exact W.objInit hC.2.1 hC.2.2.1 hC.2.2.2.2.2.1 (tb_good hC.1 hl1 rfl hW) (tb_good hC.1 (w := .instanceMethod Lib.objectInit) (by decide +kernel) rfl hW) (tb_good hC.1 (w := .code Lib.objectInit ⟨#[0xb1]⟩ 1 none) (by decide +kernel) rfl hW) rfl (by rw [hC.2.2.2.2.1]; exact hl.1) rfl hd (by rw [hC.2.2.2.2.2.2.2.2.2.1]; omega) (by rw [hC.2.2.2.2.2.2.2.2.2.2.1]; show 2 * 0 + _ + 12 ≤ _; omega) (kk p e R s m args below meth c H locs cells slots A ls hC hH hl)
theorem x_cast {idx a ci n : Nat} {f : Nat → Value} {q : vw_C} (hd : decode Y.2.1 pc = .ok (.checkcast idx, 3)) (hq : vwCl[ci]? = some q) (hcl : Cond.classLink Y.1.cls idx q.1 ∈ lw_tbl) (hM : M a = some (ci, n, f)) (kk : XJ G d k Y M lv (.ref a :: st) (pc + 3) Q) : XJ G d k Y M lv (.ref a :: st) pc Q := by
  intro p e R s m args below meth c H locs cells slots A ls hC hH hl
  have hW := hC.2.2.2.2.2.2.2.2.1
  have hKK := bs_K hC.1 hW
  exact va_castS hC.2.1 hC.2.2.1 hC.2.2.2.2.2.1 (tb_good hC.1 hcl rfl hW) (hKK.1 ci q hq).2 (cAt_recv (hH.1 a _ hM).2 hq hKK) hd (kk p e R s m args below meth c H locs cells slots A ls hC hH hl)
theorem x_ldc {idx : Nat} {v : Int32} (hd : decode Y.2.1 pc = .ok (.ldc idx, 2)) (hw : Cond.constant Y.1.cls idx v ∈ lw_tbl) (kk : XJ G d k Y M lv (.int v :: st) (pc + 2) Q) : XJ G d k Y M lv st pc Q :=
  fun p e R s m args below meth c H locs cells slots A ls hC hH hl => lv_ldc hC.2.1 hC.2.2.1 hC.2.2.2.2.2.1 (tb_good hC.1 hw rfl hC.2.2.2.2.2.2.2.2.1) hd (kk p e R s m args below meth c H locs cells slots A ls hC hH hl)
theorem x_ldcw {idx : Nat} {v : Int32} (hd : decode Y.2.1 pc = .ok (.ldc_w idx, 3)) (hw : Cond.constant Y.1.cls idx v ∈ lw_tbl) (kk : XJ G d k Y M lv (.int v :: st) (pc + 3) Q) : XJ G d k Y M lv st pc Q :=
  fun p e R s m args below meth c H locs cells slots A ls hC hH hl => lv_ldcw hC.2.1 hC.2.2.1 hC.2.2.2.2.2.1 (tb_good hC.1 hw rfl hC.2.2.2.2.2.2.2.2.1) hd (kk p e R s m args below meth c H locs cells slots A ls hC hH hl)
theorem x_ldc2 {idx : Nat} {v : Int64} (hd : decode Y.2.1 pc = .ok (.ldc2_w idx, 3)) (hw : Cond.constantLong Y.1.cls idx v ∈ lw_tbl) (kk : XJ G d k Y M lv (.long v :: st) (pc + 3) Q) : XJ G d k Y M lv st pc Q :=
  fun p e R s m args below meth c H locs cells slots A ls hC hH hl => lv_ldc2 hC.2.1 hC.2.2.1 hC.2.2.2.2.2.1 (tb_good hC.1 hw rfl hC.2.2.2.2.2.2.2.2.1) hd (kk p e R s m args below meth c H locs cells slots A ls hC hH hl)
theorem x_ifnonnull {x : Nat} {off : Int} {tgt : Nat} (hd : decode Y.2.1 pc = .ok (.ifnonnull off, 3)) (ht : (pc : Int) + off = (tgt : Int)) (kk : XJ G d k Y M lv st tgt Q) : XJ G d k Y M lv (.ref x :: st) pc Q :=
  fun p e R s m args below meth c H locs cells slots A ls hC hH hl => lv_ifnonnull hC.2.1 hC.2.2.1 hd ht (kk p e R s m args below meth c H locs cells slots A ls hC hH hl)
theorem x_ifnonnullN {off : Int} (hd : decode Y.2.1 pc = .ok (.ifnonnull off, 3)) (kk : XJ G d k Y M lv st (pc + 3) Q) : XJ G d k Y M lv (.null :: st) pc Q :=
  fun p e R s m args below meth c H locs cells slots A ls hC hH hl => lv_ifnonnullN hC.2.1 hC.2.2.1 hd (kk p e R s m args below meth c H locs cells slots A ls hC hH hl)
theorem x_ifnull {x : Nat} {off : Int} (hd : decode Y.2.1 pc = .ok (.ifnull off, 3)) (kk : XJ G d k Y M lv st (pc + 3) Q) : XJ G d k Y M lv (.ref x :: st) pc Q :=
  fun p e R s m args below meth c H locs cells slots A ls hC hH hl => lv_ifnull hC.2.1 hC.2.2.1 hd (kk p e R s m args below meth c H locs cells slots A ls hC hH hl)
theorem x_ifnullN {off : Int} {tgt : Nat} (hd : decode Y.2.1 pc = .ok (.ifnull off, 3)) (ht : (pc : Int) + off = (tgt : Int)) (kk : XJ G d k Y M lv st tgt Q) : XJ G d k Y M lv (.null :: st) pc Q :=
  fun p e R s m args below meth c H locs cells slots A ls hC hH hl => lv_ifnullN hC.2.1 hC.2.2.1 hd ht (kk p e R s m args below meth c H locs cells slots A ls hC hH hl)
theorem x_acmp_eq {a b : Nat} {off : Int} {tgt : Nat} (hd : decode Y.2.1 pc = .ok (.if_acmp .eq off, 3)) (ht : (pc : Int) + off = (tgt : Int)) (kt : a = b → XJ G d k Y M lv st tgt Q) (kf : ¬ a = b → XJ G d k Y M lv st (pc + 3) Q) : XJ G d k Y M lv (.ref b :: .ref a :: st) pc Q :=
  fun p e R s m args below meth c H locs cells slots A ls hC hH hl => lv_acmp_eq (rx := some a) (ry := some b) hC.2.1 hC.2.2.1 hd ht (fun z => kt (Option.some.inj z) p e R s m args below meth c H locs cells slots A ls hC hH hl) (fun z => kf (fun y => z (by rw [y])) p e R s m args below meth c H locs cells slots A ls hC hH hl)
theorem x_acmp_ne {a b : Nat} {off : Int} {tgt : Nat} (hd : decode Y.2.1 pc = .ok (.if_acmp .ne off, 3)) (ht : (pc : Int) + off = (tgt : Int)) (kt : ¬ a = b → XJ G d k Y M lv st tgt Q) (kf : a = b → XJ G d k Y M lv st (pc + 3) Q) : XJ G d k Y M lv (.ref b :: .ref a :: st) pc Q :=
  fun p e R s m args below meth c H locs cells slots A ls hC hH hl => lv_acmp_ne (rx := some a) (ry := some b) hC.2.1 hC.2.2.1 hd ht (fun z => kt (fun y => z (by rw [y])) p e R s m args below meth c H locs cells slots A ls hC hH hl) (fun z => kf (Option.some.inj z) p e R s m args below meth c H locs cells slots A ls hC hH hl)
theorem x_tableOut {dflt lo hi : Int} {offs : Array Int} {len tgt : Nat} {x : Int32} (hd : decode Y.2.1 pc = .ok (.tableswitch dflt lo hi offs, len)) (h : x.toInt < lo ∨ hi < x.toInt) (ht : (pc : Int) + dflt = (tgt : Int)) (kk : XJ G d k Y M lv st tgt Q) : XJ G d k Y M lv (.int x :: st) pc Q :=
  fun p e R s m args below meth c H locs cells slots A ls hC hH hl => lv_tableOut hC.2.1 hC.2.2.1 hd h ht (kk p e R s m args below meth c H locs cells slots A ls hC hH hl)
theorem x_tableIn {dflt lo hi off : Int} {offs : Array Int} {len tgt : Nat} {x : Int32} (hd : decode Y.2.1 pc = .ok (.tableswitch dflt lo hi offs, len)) (h1 : ¬ x.toInt < lo) (h2 : ¬ hi < x.toInt) (ho : offs[(x.toInt - lo).toNat]? = some off) (ht : (pc : Int) + off = (tgt : Int)) (kk : XJ G d k Y M lv st tgt Q) : XJ G d k Y M lv (.int x :: st) pc Q :=
  fun p e R s m args below meth c H locs cells slots A ls hC hH hl => lv_tableIn hC.2.1 hC.2.2.1 hd h1 h2 ho ht (kk p e R s m args below meth c H locs cells slots A ls hC hH hl)
end XA
/-- down a loop's count -/
theorem loop_up {P : Nat → Prop} {n : Nat} (hn : P n) (hs : ∀ i, i < n → P (i + 1) → P i) : ∀ i, i ≤ n → P i := by
  intro i hi
  obtain ⟨j, rfl⟩ := Nat.exists_eq_add_of_le hi
  induction j generalizing i with
  | zero => exact hn
  | succ j ih => exact hs i (by omega) (by have := ih (i := i + 1) (by rw [show i + 1 + j = i + (j + 1) by omega]; exact hn) (by rw [show i + 1 + j = i + (j + 1) by omega]; exact hs) (by omega); exact this)
end
section
/-! method records, words by their places, links (printed by walk.py) -/
abbrev MX12_isIn : MR := (yX12_isIn, cX12_isIn, 3, (some .boolean))
abbrev MX12_isKnown : MR := (yX12_isKnown, cX12_isKnown, 2, (some .boolean))
abbrev MX12_person : MR := (yX12_person, cX12_person, 4, (some .int))
theorem tb10 : (Cond.initialized "DiaryHouseModel") ∈ lw_tbl := tb_r (List.mem_of_getElem? (i := 10) (by decide +kernel))
theorem tb1183 : (Cond.fieldLink "DiaryHouseModel" (138 : Nat) "DiaryHouseModel" "thrown" "I") ∈ lw_tbl := tb_r (List.mem_of_getElem? (i := 1183) (by decide +kernel))
theorem tb1184 : (Cond.fieldLink "DiaryHouseModel" (142 : Nat) "DiaryHouseModel" "now" "I") ∈ lw_tbl := tb_r (List.mem_of_getElem? (i := 1184) (by decide +kernel))
theorem tb1185 : (Cond.fieldLink "DiaryHouseModel" (9 : Nat) "DiaryHouseModel" "place" "[I") ∈ lw_tbl := tb_r (List.mem_of_getElem? (i := 1185) (by decide +kernel))
theorem tb1186 : (Cond.fieldLink "DiaryHouseModel" (13 : Nat) "DiaryHouseModel" "age" "[I") ∈ lw_tbl := tb_r (List.mem_of_getElem? (i := 1186) (by decide +kernel))
theorem tb1187 : (Cond.fieldLink "DiaryHouseModel" (16 : Nat) "DiaryHouseModel" "work" "[I") ∈ lw_tbl := tb_r (List.mem_of_getElem? (i := 1187) (by decide +kernel))
theorem tb1198 : (Cond.fieldLink "DiaryHouseModel" (149 : Nat) "DiaryHouseModel" "persons" "I") ∈ lw_tbl := tb_r (List.mem_of_getElem? (i := 1198) (by decide +kernel))
theorem tb1391 : (Cond.methodLink "DiaryHouseModel" (145 : Nat) ({ cls := "DiaryHouseModel", name := "isIn", desc := "(III)Z" } : MethodName)) ∈ lw_tbl := tb_r (List.mem_of_getElem? (i := 1391) (by decide +kernel))
theorem tb1392 : (Cond.static ({ cls := "DiaryHouseModel", name := "isIn", desc := "(III)Z" } : MethodName)) ∈ lw_tbl := tb_r (List.mem_of_getElem? (i := 1392) (by decide +kernel))
theorem tb1393 : (Cond.code ({ cls := "DiaryHouseModel", name := "isIn", desc := "(III)Z" } : MethodName) prog_14_method_3_code (3 : Nat) (Option.some FieldType.boolean)) ∈ lw_tbl := tb_r (List.mem_of_getElem? (i := 1393) (by decide +kernel))
theorem lc_X12_isIn : LkC MX12_isIn 3 := ⟨tb1393, tb10, by decide, by decide +kernel, by decide⟩
theorem lf_X12_13 : LkF RX12 13 13 3 := ⟨_, rfl, by decide, Or.inl tb1186, Or.inl rfl⟩
theorem lf_X12_142 : LkF RX12 142 13 1 := ⟨_, rfl, by decide, Or.inl tb1184, Or.inl rfl⟩
theorem lf_X12_149 : LkF RX12 149 13 15 := ⟨_, rfl, by decide, Or.inl tb1198, Or.inl rfl⟩
theorem lf_X12_16 : LkF RX12 16 13 4 := ⟨_, rfl, by decide, Or.inl tb1187, Or.inl rfl⟩
theorem lf_X12_9 : LkF RX12 9 13 2 := ⟨_, rfl, by decide, Or.inl tb1185, Or.inl rfl⟩
theorem lp_X12_138 : LkP RX12 138 13 0 := ⟨_, rfl, by decide, tb1183, Or.inl rfl, rfl⟩
theorem lp_X12_149 : LkP RX12 149 13 15 := ⟨_, rfl, by decide, tb1198, Or.inl rfl, rfl⟩
theorem ls_X12_145 : LkS RX12 145 MX12_isIn 3 := ⟨lc_X12_isIn, tb1392, tb1391⟩
end
section
theorem dX12_isIn_0 : decode cX12_isIn 0 = .ok (.iload_n 0, 1) := by decide +kernel
theorem dX12_isIn_1 : decode cX12_isIn 1 = .ok (.iload_n 1, 1) := by decide +kernel
theorem dX12_isIn_2 : decode cX12_isIn 2 = .ok (.if_icmp .lt 12, 3) := by decide +kernel
theorem dX12_isIn_5 : decode cX12_isIn 5 = .ok (.iload_n 0, 1) := by decide +kernel
theorem dX12_isIn_6 : decode cX12_isIn 6 = .ok (.iload_n 2, 1) := by decide +kernel
theorem dX12_isIn_7 : decode cX12_isIn 7 = .ok (.if_icmp .gt 7, 3) := by decide +kernel
theorem dX12_isIn_10 : decode cX12_isIn 10 = .ok (.iconst 1, 1) := by decide +kernel
theorem dX12_isIn_11 : decode cX12_isIn 11 = .ok (.goto 4, 3) := by decide +kernel
theorem dX12_isIn_14 : decode cX12_isIn 14 = .ok (.iconst 0, 1) := by decide +kernel
theorem dX12_isIn_15 : decode cX12_isIn 15 = .ok (.ireturn, 1) := by decide +kernel
theorem dX12_isKnown_0 : decode cX12_isKnown 0 = .ok (.iload_n 1, 1) := by decide +kernel
theorem dX12_isKnown_1 : decode cX12_isKnown 1 = .ok (.iconst 0, 1) := by decide +kernel
theorem dX12_isKnown_2 : decode cX12_isKnown 2 = .ok (.aload_n 0, 1) := by decide +kernel
theorem dX12_isKnown_3 : decode cX12_isKnown 3 = .ok (.getfield 142, 3) := by decide +kernel
theorem dX12_isKnown_6 : decode cX12_isKnown 6 = .ok (.invokestatic 145, 3) := by decide +kernel
theorem dX12_isKnown_9 : decode cX12_isKnown 9 = .ok (.ireturn, 1) := by decide +kernel
theorem dX12_person_0 : decode cX12_person 0 = .ok (.aload_n 0, 1) := by decide +kernel
theorem dX12_person_1 : decode cX12_person 1 = .ok (.iconst 0, 1) := by decide +kernel
theorem dX12_person_2 : decode cX12_person 2 = .ok (.putfield 138, 3) := by decide +kernel
theorem dX12_person_5 : decode cX12_person 5 = .ok (.aload_n 0, 1) := by decide +kernel
theorem dX12_person_6 : decode cX12_person 6 = .ok (.getfield 149, 3) := by decide +kernel
theorem dX12_person_9 : decode cX12_person 9 = .ok (.bipush 24, 2) := by decide +kernel
theorem dX12_person_11 : decode cX12_person 11 = .ok (.if_icmp .eq 34, 3) := by decide +kernel
theorem dX12_person_14 : decode cX12_person 14 = .ok (.iload_n 1, 1) := by decide +kernel
theorem dX12_person_15 : decode cX12_person 15 = .ok (.iconst 0, 1) := by decide +kernel
theorem dX12_person_16 : decode cX12_person 16 = .ok (.bipush 7, 2) := by decide +kernel
theorem dX12_person_18 : decode cX12_person 18 = .ok (.invokestatic 145, 3) := by decide +kernel
theorem dX12_person_21 : decode cX12_person 21 = .ok (.ifCond .eq 24, 3) := by decide +kernel
theorem dX12_person_24 : decode cX12_person 24 = .ok (.iload_n 2, 1) := by decide +kernel
theorem dX12_person_25 : decode cX12_person 25 = .ok (.bipush 10, 2) := by decide +kernel
theorem dX12_person_27 : decode cX12_person 27 = .ok (.bipush 99, 2) := by decide +kernel
theorem dX12_person_29 : decode cX12_person 29 = .ok (.invokestatic 145, 3) := by decide +kernel
theorem dX12_person_32 : decode cX12_person 32 = .ok (.ifCond .eq 13, 3) := by decide +kernel
theorem dX12_person_35 : decode cX12_person 35 = .ok (.iload_n 3, 1) := by decide +kernel
theorem dX12_person_36 : decode cX12_person 36 = .ok (.iconst 0, 1) := by decide +kernel
theorem dX12_person_37 : decode cX12_person 37 = .ok (.bipush 7, 2) := by decide +kernel
theorem dX12_person_39 : decode cX12_person 39 = .ok (.invokestatic 145, 3) := by decide +kernel
theorem dX12_person_42 : decode cX12_person 42 = .ok (.ifCond .ne 5, 3) := by decide +kernel
theorem dX12_person_45 : decode cX12_person 45 = .ok (.iconst (-1), 1) := by decide +kernel
theorem dX12_person_46 : decode cX12_person 46 = .ok (.ireturn, 1) := by decide +kernel
theorem dX12_person_47 : decode cX12_person 47 = .ok (.aload_n 0, 1) := by decide +kernel
theorem dX12_person_48 : decode cX12_person 48 = .ok (.getfield 9, 3) := by decide +kernel
theorem dX12_person_51 : decode cX12_person 51 = .ok (.aload_n 0, 1) := by decide +kernel
theorem dX12_person_52 : decode cX12_person 52 = .ok (.getfield 149, 3) := by decide +kernel
theorem dX12_person_55 : decode cX12_person 55 = .ok (.iload_n 1, 1) := by decide +kernel
theorem dX12_person_56 : decode cX12_person 56 = .ok (.iastore, 1) := by decide +kernel
theorem dX12_person_57 : decode cX12_person 57 = .ok (.aload_n 0, 1) := by decide +kernel
theorem dX12_person_58 : decode cX12_person 58 = .ok (.getfield 13, 3) := by decide +kernel
theorem dX12_person_61 : decode cX12_person 61 = .ok (.aload_n 0, 1) := by decide +kernel
theorem dX12_person_62 : decode cX12_person 62 = .ok (.getfield 149, 3) := by decide +kernel
theorem dX12_person_65 : decode cX12_person 65 = .ok (.iload_n 2, 1) := by decide +kernel
theorem dX12_person_66 : decode cX12_person 66 = .ok (.iastore, 1) := by decide +kernel
theorem dX12_person_67 : decode cX12_person 67 = .ok (.aload_n 0, 1) := by decide +kernel
theorem dX12_person_68 : decode cX12_person 68 = .ok (.getfield 16, 3) := by decide +kernel
theorem dX12_person_71 : decode cX12_person 71 = .ok (.aload_n 0, 1) := by decide +kernel
theorem dX12_person_72 : decode cX12_person 72 = .ok (.getfield 149, 3) := by decide +kernel
theorem dX12_person_75 : decode cX12_person 75 = .ok (.iload_n 3, 1) := by decide +kernel
theorem dX12_person_76 : decode cX12_person 76 = .ok (.iastore, 1) := by decide +kernel
theorem dX12_person_77 : decode cX12_person 77 = .ok (.aload_n 0, 1) := by decide +kernel
theorem dX12_person_78 : decode cX12_person 78 = .ok (.dup, 1) := by decide +kernel
theorem dX12_person_79 : decode cX12_person 79 = .ok (.getfield 149, 3) := by decide +kernel
theorem dX12_person_82 : decode cX12_person 82 = .ok (.iconst 1, 1) := by decide +kernel
theorem dX12_person_83 : decode cX12_person 83 = .ok (.iadd, 1) := by decide +kernel
theorem dX12_person_84 : decode cX12_person 84 = .ok (.putfield 149, 3) := by decide +kernel
theorem dX12_person_87 : decode cX12_person 87 = .ok (.aload_n 0, 1) := by decide +kernel
theorem dX12_person_88 : decode cX12_person 88 = .ok (.getfield 149, 3) := by decide +kernel
theorem dX12_person_91 : decode cX12_person 91 = .ok (.iconst 1, 1) := by decide +kernel
theorem dX12_person_92 : decode cX12_person 92 = .ok (.isub, 1) := by decide +kernel
theorem dX12_person_93 : decode cX12_person 93 = .ok (.ireturn, 1) := by decide +kernel
end
section
/-! THE MODEL's memory: one object, its arrays; a state is its ints and its arrays' ints -/
abbrev MS : Type := (Nat → Int32) × (Nat → Nat → Int32)
def updB (f : Nat → Int32) (k : Nat) (v : Int32) : Nat → Int32 := fun j => bif Nat.beq j k then v else f j
theorem updB_eq {f : Nat → Int32} {k : Nat} {v : Int32} : updB f k v k = v := by unfold updB; rw [Nat.beq_refl]; rfl
theorem updB_ne {f : Nat → Int32} {k j : Nat} {v : Int32} (h : j ≠ k) : updB f k v j = f j := by
  unfold updB
  cases e : Nat.beq j k with
  | false => rfl
  | true => exact absurd (Nat.eq_of_beq_eq_true e) h
def seti (σ : MS) (k : Nat) (v : Int32) : MS := (updB σ.1 k v, σ.2)
def seta (σ : MS) (k i : Nat) (v : Int32) : MS := (σ.1, fun j => bif Nat.beq j k then updB (σ.2 k) i v else σ.2 j)
theorem seta_eq {σ : MS} {k i : Nat} {v : Int32} : (seta σ k i v).2 k = updB (σ.2 k) i v := by unfold seta; show (bif Nat.beq k k then _ else _) = _; rw [Nat.beq_refl]; rfl
theorem seta_ne {σ : MS} {k i j : Nat} {v : Int32} (h : j ≠ k) : (seta σ k i v).2 j = σ.2 j := by
  show (bif Nat.beq j k then _ else _) = _
  cases e : Nat.beq j k with
  | false => rfl
  | true => exact absurd (Nat.eq_of_beq_eq_true e) h
/-- the arrays: field, kind, length -/
def mArr : List (Nat × Nat × Nat) := [(2, 100, 24), (3, 100, 24), (4, 100, 24), (5, 100, 60), (6, 100, 60), (7, 100, 60), (8, 100, 200), (9, 100, 200), (10, 100, 200), (11, 100, 200), (12, 100, 200), (13, 100, 200), (14, 100, 200), (18, 101, 160), (19, 101, 3200), (20, 100, 20), (21, 100, 20), (22, 100, 20), (23, 100, 128), (35, 100, 200), (38, 100, 100), (39, 100, 100), (40, 100, 100), (41, 100, 100), (42, 103, 100), (43, 103, 24), (45, 100, 200), (46, 100, 200), (47, 100, 200), (48, 100, 200), (50, 100, 32), (51, 100, 200), (53, 100, 4), (54, 100, 4), (55, 100, 8), (56, 100, 8), (57, 100, 8), (58, 100, 8), (62, 100, 8), (63, 100, 8), (64, 100, 24)]
def mFind : List (Nat × Nat × Nat) → Nat → Option (Nat × Nat)
  | [], _ => none
  | (k, c) :: t, i => bif Nat.beq k i then some c else mFind t i
def mIsA (k : Nat) : Bool := (mFind mArr k).isSome
/-- the field text (26) holds the array whose field's number stands in its place -/
def vM (ad : Nat → Nat) (σ : MS) (k : Nat) : Value := bif mIsA k then .ref (ad k) else bif Nat.beq k 26 then .ref (ad (σ.1 26).toNatClampNeg) else .int (σ.1 k)
def mmA (ad : Nat → Nat) (σ : MS) : List (Nat × Nat × Nat) → Mem
  | [] => fun _ => none
  | (k, c, n) :: t => fun a => if a = ad k then some (c, n, fun i => .int (σ.2 k i)) else mmA ad σ t a
def mm (ad : Nat → Nat) (σ : MS) : Mem := fun a => if a = ad 99 then some (13, 66, vM ad σ) else mmA ad σ mArr a
def adOK (ad : Nat → Nat) : Prop := ∀ i j, i < 100 → j < 100 → ad i = ad j → i = j
theorem mm_obj {ad : Nat → Nat} {σ : MS} : mm ad σ (ad 99) = some (13, 66, vM ad σ) := if_pos rfl
theorem mFind_mem : ∀ {l : List (Nat × Nat × Nat)} {k : Nat} {c : Nat × Nat}, mFind l k = some c → (k, c) ∈ l
  | [], _, _, h => by cases h
  | (j, e) :: t, k, c, h => by
    unfold mFind at h
    cases e1 : Nat.beq j k with
    | true =>
      rw [e1] at h
      have hj : j = k := Nat.eq_of_beq_eq_true e1
      cases h
      subst hj
      exact List.mem_cons_self
    | false =>
      rw [e1] at h
      exact List.mem_cons_of_mem _ (mFind_mem h)
theorem mArr_lt : ∀ q ∈ mArr, q.1 < 99 := by decide
theorem mmA_get {ad : Nat → Nat} {σ : MS} (hi : adOK ad) : ∀ (l : List (Nat × Nat × Nat)), (∀ q ∈ l, q.1 < 99) → ∀ {k c n : Nat}, mFind l k = some (c, n) → mmA ad σ l (ad k) = some (c, n, fun i => .int (σ.2 k i))
  | [], _, _, _, _, h => by cases h
  | (j, c0, n0) :: t, hl, k, c, n, h => by
    have hm := mFind_mem h
    have hk : k < 99 := hl _ hm
    have hj : j < 99 := hl (j, c0, n0) List.mem_cons_self
    unfold mFind at h
    cases e1 : Nat.beq j k with
    | true =>
      rw [e1] at h
      have e2 : j = k := Nat.eq_of_beq_eq_true e1
      subst e2
      cases h
      exact if_pos rfl
    | false =>
      rw [e1] at h
      have e2 : j ≠ k := Nat.ne_of_beq_eq_false e1
      show (if ad k = ad j then _ else _) = _
      rw [if_neg (fun z => e2 (hi j k (by omega) (by omega) z.symm))]
      exact mmA_get hi t (fun q hq => hl q (List.mem_cons_of_mem _ hq)) h
theorem mm_arr {ad : Nat → Nat} {σ : MS} (hi : adOK ad) {k c n : Nat} (h : mFind mArr k = some (c, n)) : mm ad σ (ad k) = some (c, n, fun i => .int (σ.2 k i)) := by
  have hk : k < 99 := mArr_lt _ (mFind_mem h)
  unfold mm
  rw [if_neg (fun z => absurd (hi k 99 (by omega) (by omega) z) (by omega))]
  exact mmA_get hi mArr mArr_lt h
theorem vM_seti {ad : Nat → Nat} {σ : MS} {k : Nat} {v : Int32} (h1 : mIsA k = false) (h2 : k ≠ 26) : vM ad (seti σ k v) = updV (vM ad σ) k (.int v) := by
  funext j
  by_cases e : j = k
  · subst e
    rw [updV_eq]
    unfold vM
    rw [h1]
    have : Nat.beq j 26 = false := by
      cases e2 : Nat.beq j 26 with
      | false => rfl
      | true => exact absurd (Nat.eq_of_beq_eq_true e2) h2
    rw [this]
    show Value.int (updB σ.1 j v j) = _
    rw [updB_eq]
  · rw [updV_ne e]
    unfold vM
    have h3 : (seti σ k v).1 j = σ.1 j := updB_ne e
    have h4 : (seti σ k v).1 26 = σ.1 26 := updB_ne (fun z => h2 z.symm)
    rw [h3, h4]
theorem mmA_seti {ad : Nat → Nat} {σ : MS} {k : Nat} {v : Int32} : ∀ l, mmA ad (seti σ k v) l = mmA ad σ l
  | [] => rfl
  | (j, c, n) :: t => by
    show (fun a => if a = ad j then _ else mmA ad (seti σ k v) t a) = _
    rw [mmA_seti t]; rfl
theorem mm_seti {ad : Nat → Nat} {σ : MS} {k : Nat} {v : Int32} (h1 : mIsA k = false) (h2 : k ≠ 26) : mset (mm ad σ) (ad 99) (13, 66, updV (vM ad σ) k (.int v)) = mm ad (seti σ k v) := by
  funext a
  unfold mset mm
  by_cases e : a = ad 99
  · rw [if_pos e, if_pos e, vM_seti h1 h2]
  · rw [if_neg e, if_neg e, if_neg e, mmA_seti]
theorem mm_setx {ad : Nat → Nat} {σ : MS} {j : Nat} (hj : j < 2 ^ 31) : mset (mm ad σ) (ad 99) (13, 66, updV (vM ad σ) 26 (.ref (ad j))) = mm ad (seti σ 26 (nI j)) := by
  funext a
  unfold mset mm
  by_cases e : a = ad 99
  · rw [if_pos e, if_pos e]
    congr 3
    funext i
    by_cases e2 : i = 26
    · subst e2
      rw [updV_eq]
      show _ = Value.ref (ad ((updB σ.1 26 (nI j)) 26).toNatClampNeg)
      rw [updB_eq, nI_clamp hj]
    · rw [updV_ne e2]
      unfold vM
      have : Nat.beq i 26 = false := by
        cases e3 : Nat.beq i 26 with
        | false => rfl
        | true => exact absurd (Nat.eq_of_beq_eq_true e3) e2
      rw [this]
      show _ = bif mIsA i then _ else Value.int (updB σ.1 26 (nI j) i)
      rw [updB_ne e2]; rfl
  · rw [if_neg e, if_neg e, if_neg e, mmA_seti]
theorem mmA_seta {ad : Nat → Nat} {σ : MS} (hi : adOK ad) {k i : Nat} {v : Int32} (hk : k < 99) : ∀ (l : List (Nat × Nat × Nat)), (∀ q ∈ l, q.1 < 99) → ∀ a, a ≠ ad k → mmA ad (seta σ k i v) l a = mmA ad σ l a
  | [], _, _, _ => rfl
  | (j, c, n) :: t, hl, a, ha => by
    show (if a = ad j then some (c, n, fun x => Value.int ((seta σ k i v).2 j x)) else mmA ad (seta σ k i v) t a) = (if a = ad j then some (c, n, fun x => Value.int (σ.2 j x)) else mmA ad σ t a)
    by_cases e : a = ad j
    · rw [if_pos e, if_pos e]
      have : j ≠ k := fun z => ha (by rw [e, z])
      have h2 : (seta σ k i v).2 j = σ.2 j := seta_ne this
      rw [h2]
    · rw [if_neg e, if_neg e, mmA_seta hi hk t (fun q hq => hl q (List.mem_cons_of_mem _ hq)) a ha]
theorem mm_seta {ad : Nat → Nat} {σ : MS} (hi : adOK ad) {k c n i : Nat} {v : Int32} (h : mFind mArr k = some (c, n)) : mset (mm ad σ) (ad k) (c, n, updV (fun x => .int (σ.2 k x)) i (.int v)) = mm ad (seta σ k i v) := by
  have hk : k < 99 := mArr_lt _ (mFind_mem h)
  funext a
  by_cases e : a = ad k
  · subst e
    rw [mset_eq, mm_arr hi h]
    congr 3
    funext x
    have h2 : (seta σ k i v).2 k = updB (σ.2 k) i v := seta_eq
    rw [h2]
    by_cases e2 : x = i
    · subst e2; rw [updV_eq, updB_eq]
    · rw [updV_ne e2, updB_ne e2]
  · rw [mset_ne e]
    unfold mm
    by_cases e2 : a = ad 99
    · rw [if_pos e2, if_pos e2]; rfl
    · rw [if_neg e2, if_neg e2, mmA_seta hi hk mArr mArr_lt a e]
theorem vmi_0 {ad : Nat → Nat} {σ : MS} : vM ad σ 0 = .int (σ.1 0) := rfl
theorem vmq_0 : (mIsA 0 || Nat.beq 0 26) = false := rfl
theorem vmn_0 {v : Int32} : narrow (vwTy 13 0) (.int v) = .int v := rfl
theorem vmf_0 {v : Int32} : fits (vwTy 13 0) (.int v) = true := rfl
theorem vmi_1 {ad : Nat → Nat} {σ : MS} : vM ad σ 1 = .int (σ.1 1) := rfl
theorem vmq_1 : (mIsA 1 || Nat.beq 1 26) = false := rfl
theorem vmn_1 {v : Int32} : narrow (vwTy 13 1) (.int v) = .int v := rfl
theorem vmf_1 {v : Int32} : fits (vwTy 13 1) (.int v) = true := rfl
theorem vma_2 {ad : Nat → Nat} {σ : MS} : vM ad σ 2 = .ref (ad 2) := rfl
theorem mf_2 : mFind mArr 2 = some (100, 24) := rfl
theorem vma_3 {ad : Nat → Nat} {σ : MS} : vM ad σ 3 = .ref (ad 3) := rfl
theorem mf_3 : mFind mArr 3 = some (100, 24) := rfl
theorem vma_4 {ad : Nat → Nat} {σ : MS} : vM ad σ 4 = .ref (ad 4) := rfl
theorem mf_4 : mFind mArr 4 = some (100, 24) := rfl
theorem vma_5 {ad : Nat → Nat} {σ : MS} : vM ad σ 5 = .ref (ad 5) := rfl
theorem mf_5 : mFind mArr 5 = some (100, 60) := rfl
theorem vma_6 {ad : Nat → Nat} {σ : MS} : vM ad σ 6 = .ref (ad 6) := rfl
theorem mf_6 : mFind mArr 6 = some (100, 60) := rfl
theorem vma_7 {ad : Nat → Nat} {σ : MS} : vM ad σ 7 = .ref (ad 7) := rfl
theorem mf_7 : mFind mArr 7 = some (100, 60) := rfl
theorem vma_8 {ad : Nat → Nat} {σ : MS} : vM ad σ 8 = .ref (ad 8) := rfl
theorem mf_8 : mFind mArr 8 = some (100, 200) := rfl
theorem vma_9 {ad : Nat → Nat} {σ : MS} : vM ad σ 9 = .ref (ad 9) := rfl
theorem mf_9 : mFind mArr 9 = some (100, 200) := rfl
theorem vma_10 {ad : Nat → Nat} {σ : MS} : vM ad σ 10 = .ref (ad 10) := rfl
theorem mf_10 : mFind mArr 10 = some (100, 200) := rfl
theorem vma_11 {ad : Nat → Nat} {σ : MS} : vM ad σ 11 = .ref (ad 11) := rfl
theorem mf_11 : mFind mArr 11 = some (100, 200) := rfl
theorem vma_12 {ad : Nat → Nat} {σ : MS} : vM ad σ 12 = .ref (ad 12) := rfl
theorem mf_12 : mFind mArr 12 = some (100, 200) := rfl
theorem vma_13 {ad : Nat → Nat} {σ : MS} : vM ad σ 13 = .ref (ad 13) := rfl
theorem mf_13 : mFind mArr 13 = some (100, 200) := rfl
theorem vma_14 {ad : Nat → Nat} {σ : MS} : vM ad σ 14 = .ref (ad 14) := rfl
theorem mf_14 : mFind mArr 14 = some (100, 200) := rfl
theorem vmi_15 {ad : Nat → Nat} {σ : MS} : vM ad σ 15 = .int (σ.1 15) := rfl
theorem vmq_15 : (mIsA 15 || Nat.beq 15 26) = false := rfl
theorem vmn_15 {v : Int32} : narrow (vwTy 13 15) (.int v) = .int v := rfl
theorem vmf_15 {v : Int32} : fits (vwTy 13 15) (.int v) = true := rfl
theorem vmi_16 {ad : Nat → Nat} {σ : MS} : vM ad σ 16 = .int (σ.1 16) := rfl
theorem vmq_16 : (mIsA 16 || Nat.beq 16 26) = false := rfl
theorem vmn_16 {v : Int32} : narrow (vwTy 13 16) (.int v) = .int v := rfl
theorem vmf_16 {v : Int32} : fits (vwTy 13 16) (.int v) = true := rfl
theorem vmi_17 {ad : Nat → Nat} {σ : MS} : vM ad σ 17 = .int (σ.1 17) := rfl
theorem vmq_17 : (mIsA 17 || Nat.beq 17 26) = false := rfl
theorem vmn_17 {v : Int32} : narrow (vwTy 13 17) (.int v) = .int v := rfl
theorem vmf_17 {v : Int32} : fits (vwTy 13 17) (.int v) = true := rfl
theorem vma_18 {ad : Nat → Nat} {σ : MS} : vM ad σ 18 = .ref (ad 18) := rfl
theorem mf_18 : mFind mArr 18 = some (101, 160) := rfl
theorem vma_19 {ad : Nat → Nat} {σ : MS} : vM ad σ 19 = .ref (ad 19) := rfl
theorem mf_19 : mFind mArr 19 = some (101, 3200) := rfl
theorem vma_20 {ad : Nat → Nat} {σ : MS} : vM ad σ 20 = .ref (ad 20) := rfl
theorem mf_20 : mFind mArr 20 = some (100, 20) := rfl
theorem vma_21 {ad : Nat → Nat} {σ : MS} : vM ad σ 21 = .ref (ad 21) := rfl
theorem mf_21 : mFind mArr 21 = some (100, 20) := rfl
theorem vma_22 {ad : Nat → Nat} {σ : MS} : vM ad σ 22 = .ref (ad 22) := rfl
theorem mf_22 : mFind mArr 22 = some (100, 20) := rfl
theorem vma_23 {ad : Nat → Nat} {σ : MS} : vM ad σ 23 = .ref (ad 23) := rfl
theorem mf_23 : mFind mArr 23 = some (100, 128) := rfl
theorem vmi_24 {ad : Nat → Nat} {σ : MS} : vM ad σ 24 = .int (σ.1 24) := rfl
theorem vmq_24 : (mIsA 24 || Nat.beq 24 26) = false := rfl
theorem vmn_24 {v : Int32} : narrow (vwTy 13 24) (.int v) = .int v := rfl
theorem vmf_24 {v : Int32} : fits (vwTy 13 24) (.int v) = true := rfl
theorem vmi_25 {ad : Nat → Nat} {σ : MS} : vM ad σ 25 = .int (σ.1 25) := rfl
theorem vmq_25 : (mIsA 25 || Nat.beq 25 26) = false := rfl
theorem vmn_25 {v : Int32} : narrow (vwTy 13 25) (.int v) = .int v := rfl
theorem vmf_25 {v : Int32} : fits (vwTy 13 25) (.int v) = true := rfl
theorem vmi_27 {ad : Nat → Nat} {σ : MS} : vM ad σ 27 = .int (σ.1 27) := rfl
theorem vmq_27 : (mIsA 27 || Nat.beq 27 26) = false := rfl
theorem vmn_27 {v : Int32} : narrow (vwTy 13 27) (.int v) = .int v := rfl
theorem vmf_27 {v : Int32} : fits (vwTy 13 27) (.int v) = true := rfl
theorem vmi_28 {ad : Nat → Nat} {σ : MS} : vM ad σ 28 = .int (σ.1 28) := rfl
theorem vmq_28 : (mIsA 28 || Nat.beq 28 26) = false := rfl
theorem vmn_28 {v : Int32} : narrow (vwTy 13 28) (.int v) = .int v := rfl
theorem vmf_28 {v : Int32} : fits (vwTy 13 28) (.int v) = true := rfl
theorem vmi_29 {ad : Nat → Nat} {σ : MS} : vM ad σ 29 = .int (σ.1 29) := rfl
theorem vmq_29 : (mIsA 29 || Nat.beq 29 26) = false := rfl
theorem vmn_29 {v : Int32} : narrow (vwTy 13 29) (.int v) = .int v := rfl
theorem vmf_29 {v : Int32} : fits (vwTy 13 29) (.int v) = true := rfl
theorem vmi_30 {ad : Nat → Nat} {σ : MS} : vM ad σ 30 = .int (σ.1 30) := rfl
theorem vmq_30 : (mIsA 30 || Nat.beq 30 26) = false := rfl
theorem vmn_30 {v : Int32} : narrow (vwTy 13 30) (.int v) = .int v := rfl
theorem vmf_30 {v : Int32} : fits (vwTy 13 30) (.int v) = true := rfl
theorem vmi_31 {ad : Nat → Nat} {σ : MS} : vM ad σ 31 = .int (σ.1 31) := rfl
theorem vmq_31 : (mIsA 31 || Nat.beq 31 26) = false := rfl
theorem vmn_31 {v : Int32} : narrow (vwTy 13 31) (.int v) = .int v := rfl
theorem vmf_31 {v : Int32} : fits (vwTy 13 31) (.int v) = true := rfl
theorem vmi_32 {ad : Nat → Nat} {σ : MS} : vM ad σ 32 = .int (σ.1 32) := rfl
theorem vmq_32 : (mIsA 32 || Nat.beq 32 26) = false := rfl
theorem vmn_32 {v : Int32} : narrow (vwTy 13 32) (.int v) = .int v := rfl
theorem vmf_32 {v : Int32} : fits (vwTy 13 32) (.int v) = true := rfl
theorem vmi_33 {ad : Nat → Nat} {σ : MS} : vM ad σ 33 = .int (σ.1 33) := rfl
theorem vmq_33 : (mIsA 33 || Nat.beq 33 26) = false := rfl
theorem vmn_33 {v : Int32} : narrow (vwTy 13 33) (.int v) = .int v := rfl
theorem vmf_33 {v : Int32} : fits (vwTy 13 33) (.int v) = true := rfl
theorem vmi_34 {ad : Nat → Nat} {σ : MS} : vM ad σ 34 = .int (σ.1 34) := rfl
theorem vmq_34 : (mIsA 34 || Nat.beq 34 26) = false := rfl
theorem vma_35 {ad : Nat → Nat} {σ : MS} : vM ad σ 35 = .ref (ad 35) := rfl
theorem mf_35 : mFind mArr 35 = some (100, 200) := rfl
theorem vmi_36 {ad : Nat → Nat} {σ : MS} : vM ad σ 36 = .int (σ.1 36) := rfl
theorem vmq_36 : (mIsA 36 || Nat.beq 36 26) = false := rfl
theorem vmn_36 {v : Int32} : narrow (vwTy 13 36) (.int v) = .int v := rfl
theorem vmf_36 {v : Int32} : fits (vwTy 13 36) (.int v) = true := rfl
theorem vmi_37 {ad : Nat → Nat} {σ : MS} : vM ad σ 37 = .int (σ.1 37) := rfl
theorem vmq_37 : (mIsA 37 || Nat.beq 37 26) = false := rfl
theorem vmn_37 {v : Int32} : narrow (vwTy 13 37) (.int v) = .int v := rfl
theorem vmf_37 {v : Int32} : fits (vwTy 13 37) (.int v) = true := rfl
theorem vma_38 {ad : Nat → Nat} {σ : MS} : vM ad σ 38 = .ref (ad 38) := rfl
theorem mf_38 : mFind mArr 38 = some (100, 100) := rfl
theorem vma_39 {ad : Nat → Nat} {σ : MS} : vM ad σ 39 = .ref (ad 39) := rfl
theorem mf_39 : mFind mArr 39 = some (100, 100) := rfl
theorem vma_40 {ad : Nat → Nat} {σ : MS} : vM ad σ 40 = .ref (ad 40) := rfl
theorem mf_40 : mFind mArr 40 = some (100, 100) := rfl
theorem vma_41 {ad : Nat → Nat} {σ : MS} : vM ad σ 41 = .ref (ad 41) := rfl
theorem mf_41 : mFind mArr 41 = some (100, 100) := rfl
theorem vma_42 {ad : Nat → Nat} {σ : MS} : vM ad σ 42 = .ref (ad 42) := rfl
theorem mf_42 : mFind mArr 42 = some (103, 100) := rfl
theorem vma_43 {ad : Nat → Nat} {σ : MS} : vM ad σ 43 = .ref (ad 43) := rfl
theorem mf_43 : mFind mArr 43 = some (103, 24) := rfl
theorem vmi_44 {ad : Nat → Nat} {σ : MS} : vM ad σ 44 = .int (σ.1 44) := rfl
theorem vmq_44 : (mIsA 44 || Nat.beq 44 26) = false := rfl
theorem vmn_44 {v : Int32} : narrow (vwTy 13 44) (.int v) = .int v := rfl
theorem vmf_44 {v : Int32} : fits (vwTy 13 44) (.int v) = true := rfl
theorem vma_45 {ad : Nat → Nat} {σ : MS} : vM ad σ 45 = .ref (ad 45) := rfl
theorem mf_45 : mFind mArr 45 = some (100, 200) := rfl
theorem vma_46 {ad : Nat → Nat} {σ : MS} : vM ad σ 46 = .ref (ad 46) := rfl
theorem mf_46 : mFind mArr 46 = some (100, 200) := rfl
theorem vma_47 {ad : Nat → Nat} {σ : MS} : vM ad σ 47 = .ref (ad 47) := rfl
theorem mf_47 : mFind mArr 47 = some (100, 200) := rfl
theorem vma_48 {ad : Nat → Nat} {σ : MS} : vM ad σ 48 = .ref (ad 48) := rfl
theorem mf_48 : mFind mArr 48 = some (100, 200) := rfl
theorem vmi_49 {ad : Nat → Nat} {σ : MS} : vM ad σ 49 = .int (σ.1 49) := rfl
theorem vmq_49 : (mIsA 49 || Nat.beq 49 26) = false := rfl
theorem vmn_49 {v : Int32} : narrow (vwTy 13 49) (.int v) = .int v := rfl
theorem vmf_49 {v : Int32} : fits (vwTy 13 49) (.int v) = true := rfl
theorem vma_50 {ad : Nat → Nat} {σ : MS} : vM ad σ 50 = .ref (ad 50) := rfl
theorem mf_50 : mFind mArr 50 = some (100, 32) := rfl
theorem vma_51 {ad : Nat → Nat} {σ : MS} : vM ad σ 51 = .ref (ad 51) := rfl
theorem mf_51 : mFind mArr 51 = some (100, 200) := rfl
theorem vmi_52 {ad : Nat → Nat} {σ : MS} : vM ad σ 52 = .int (σ.1 52) := rfl
theorem vmq_52 : (mIsA 52 || Nat.beq 52 26) = false := rfl
theorem vmn_52 {v : Int32} : narrow (vwTy 13 52) (.int v) = .int v := rfl
theorem vmf_52 {v : Int32} : fits (vwTy 13 52) (.int v) = true := rfl
theorem vma_53 {ad : Nat → Nat} {σ : MS} : vM ad σ 53 = .ref (ad 53) := rfl
theorem mf_53 : mFind mArr 53 = some (100, 4) := rfl
theorem vma_54 {ad : Nat → Nat} {σ : MS} : vM ad σ 54 = .ref (ad 54) := rfl
theorem mf_54 : mFind mArr 54 = some (100, 4) := rfl
theorem vma_55 {ad : Nat → Nat} {σ : MS} : vM ad σ 55 = .ref (ad 55) := rfl
theorem mf_55 : mFind mArr 55 = some (100, 8) := rfl
theorem vma_56 {ad : Nat → Nat} {σ : MS} : vM ad σ 56 = .ref (ad 56) := rfl
theorem mf_56 : mFind mArr 56 = some (100, 8) := rfl
theorem vma_57 {ad : Nat → Nat} {σ : MS} : vM ad σ 57 = .ref (ad 57) := rfl
theorem mf_57 : mFind mArr 57 = some (100, 8) := rfl
theorem vma_58 {ad : Nat → Nat} {σ : MS} : vM ad σ 58 = .ref (ad 58) := rfl
theorem mf_58 : mFind mArr 58 = some (100, 8) := rfl
theorem vmi_59 {ad : Nat → Nat} {σ : MS} : vM ad σ 59 = .int (σ.1 59) := rfl
theorem vmq_59 : (mIsA 59 || Nat.beq 59 26) = false := rfl
theorem vmn_59 {v : Int32} : narrow (vwTy 13 59) (.int v) = .int v := rfl
theorem vmf_59 {v : Int32} : fits (vwTy 13 59) (.int v) = true := rfl
theorem vmi_60 {ad : Nat → Nat} {σ : MS} : vM ad σ 60 = .int (σ.1 60) := rfl
theorem vmq_60 : (mIsA 60 || Nat.beq 60 26) = false := rfl
theorem vmn_60 {v : Int32} : narrow (vwTy 13 60) (.int v) = .int v := rfl
theorem vmf_60 {v : Int32} : fits (vwTy 13 60) (.int v) = true := rfl
theorem vmi_61 {ad : Nat → Nat} {σ : MS} : vM ad σ 61 = .int (σ.1 61) := rfl
theorem vmq_61 : (mIsA 61 || Nat.beq 61 26) = false := rfl
theorem vmn_61 {v : Int32} : narrow (vwTy 13 61) (.int v) = .int v := rfl
theorem vmf_61 {v : Int32} : fits (vwTy 13 61) (.int v) = true := rfl
theorem vma_62 {ad : Nat → Nat} {σ : MS} : vM ad σ 62 = .ref (ad 62) := rfl
theorem mf_62 : mFind mArr 62 = some (100, 8) := rfl
theorem vma_63 {ad : Nat → Nat} {σ : MS} : vM ad σ 63 = .ref (ad 63) := rfl
theorem mf_63 : mFind mArr 63 = some (100, 8) := rfl
theorem vma_64 {ad : Nat → Nat} {σ : MS} : vM ad σ 64 = .ref (ad 64) := rfl
theorem mf_64 : mFind mArr 64 = some (100, 24) := rfl
theorem vmi_65 {ad : Nat → Nat} {σ : MS} : vM ad σ 65 = .int (σ.1 65) := rfl
theorem vmq_65 : (mIsA 65 || Nat.beq 65 26) = false := rfl
theorem vmn_65 {v : Int32} : narrow (vwTy 13 65) (.int v) = .int v := rfl
theorem vmf_65 {v : Int32} : fits (vwTy 13 65) (.int v) = true := rfl
section XM
variable {G : Gam} {d : Nat} {k : Nat × Nat} {Y : MR} {ad : Nat → Nat} {σ : MS} {lv : Lv} {st : List Value} {pc : Nat} {Q : Option Value → Mem → Prop}
theorem xm_geti {idx kf : Nat} (hd : decode Y.2.1 pc = .ok (.getfield idx, 3)) (hlk : LkF Y.1.cls idx 13 kf) (hv : vM ad σ kf = .int (σ.1 kf)) (kk : XJ G d k Y (mm ad σ) lv (.int (σ.1 kf) :: st) (pc + 3) Q) : XJ G d k Y (mm ad σ) lv (.ref (ad 99) :: st) pc Q := x_getf hd hlk mm_obj hv kk
theorem xm_geta {idx kf : Nat} (hd : decode Y.2.1 pc = .ok (.getfield idx, 3)) (hlk : LkF Y.1.cls idx 13 kf) (hv : vM ad σ kf = .ref (ad kf)) (kk : XJ G d k Y (mm ad σ) lv (.ref (ad kf) :: st) (pc + 3) Q) : XJ G d k Y (mm ad σ) lv (.ref (ad 99) :: st) pc Q := x_getf hd hlk mm_obj hv kk
theorem xm_puti {idx kf : Nat} {v : Int32} (hd : decode Y.2.1 pc = .ok (.putfield idx, 3)) (hlk : LkP Y.1.cls idx 13 kf) (hA : (mIsA kf || Nat.beq kf 26) = false) (hn : narrow (vwTy 13 kf) (.int v) = .int v) (hfit : fits (vwTy 13 kf) (.int v) = true) (kk : XJ G d k Y (mm ad (seti σ kf v)) lv st (pc + 3) Q) : XJ G d k Y (mm ad σ) lv (.int v :: .ref (ad 99) :: st) pc Q := by
  rw [Bool.or_eq_false_iff] at hA
  refine x_putf hd hlk mm_obj hn hfit ?_
  rw [mm_seti hA.1 (Nat.ne_of_beq_eq_false hA.2)]
  exact kk
theorem xm_iald {n j : Nat} (kf : Nat) {i : Int32} (hd : decode Y.2.1 pc = .ok (.iaload, 1)) (h : mFind mArr kf = some (100, n)) (hi : adOK ad) (hin : vp_in i n) (hj : i.toNatClampNeg = j) (kk : XJ G d k Y (mm ad σ) lv (.int (σ.2 kf j) :: st) (pc + 1) Q) : XJ G d k Y (mm ad σ) lv (.int i :: .ref (ad kf) :: st) pc Q := x_iaload hd (mm_arr hi h) hin (by rw [hj]) kk
theorem xm_bald {n j : Nat} (kf : Nat) {i : Int32} (hd : decode Y.2.1 pc = .ok (.baload, 1)) (h : mFind mArr kf = some (101, n)) (hi : adOK ad) (hin : vp_in i n) (hj : i.toNatClampNeg = j) (kk : XJ G d k Y (mm ad σ) lv (.int (σ.2 kf j) :: st) (pc + 1) Q) : XJ G d k Y (mm ad σ) lv (.int i :: .ref (ad kf) :: st) pc Q := x_baload hd (mm_arr hi h) hin (by rw [hj]) kk
theorem xm_zald {n j : Nat} (kf : Nat) {i : Int32} (hd : decode Y.2.1 pc = .ok (.baload, 1)) (h : mFind mArr kf = some (103, n)) (hi : adOK ad) (hin : vp_in i n) (hj : i.toNatClampNeg = j) (kk : XJ G d k Y (mm ad σ) lv (.int (σ.2 kf j) :: st) (pc + 1) Q) : XJ G d k Y (mm ad σ) lv (.int i :: .ref (ad kf) :: st) pc Q := x_zaload hd (mm_arr hi h) hin (by rw [hj]) kk
theorem xm_iast {n j : Nat} (kf : Nat) {i v : Int32} (hd : decode Y.2.1 pc = .ok (.iastore, 1)) (h : mFind mArr kf = some (100, n)) (hi : adOK ad) (hin : vp_in i n) (hj : i.toNatClampNeg = j) (kk : XJ G d k Y (mm ad (seta σ kf j v)) lv st (pc + 1) Q) : XJ G d k Y (mm ad σ) lv (.int v :: .int i :: .ref (ad kf) :: st) pc Q := by
  refine x_iastore hd (mm_arr hi h) hin ?_
  rw [mm_seta hi h, hj]; exact kk
theorem xm_bast {n j : Nat} (kf : Nat) {i v : Int32} (hd : decode Y.2.1 pc = .ok (.bastore, 1)) (h : mFind mArr kf = some (101, n)) (hi : adOK ad) (hin : vp_in i n) (hj : i.toNatClampNeg = j) (kk : XJ G d k Y (mm ad (seta σ kf j v.toInt8.toInt32)) lv st (pc + 1) Q) : XJ G d k Y (mm ad σ) lv (.int v :: .int i :: .ref (ad kf) :: st) pc Q := by
  refine x_bastore hd (mm_arr hi h) hin ?_
  rw [mm_seta hi h, hj]; exact kk
theorem xm_zast {n j : Nat} (kf : Nat) {i v : Int32} (hd : decode Y.2.1 pc = .ok (.bastore, 1)) (h : mFind mArr kf = some (103, n)) (hi : adOK ad) (hin : vp_in i n) (hj : i.toNatClampNeg = j) (kk : XJ G d k Y (mm ad (seta σ kf j (v &&& 1))) lv st (pc + 1) Q) : XJ G d k Y (mm ad σ) lv (.int v :: .int i :: .ref (ad kf) :: st) pc Q := by
  refine x_zastore hd (mm_arr hi h) hin ?_
  rw [mm_seta hi h, hj]; exact kk
end XM
/-- 1 where P holds, else 0 -/
noncomputable def bI (P : Prop) : Int32 := @ite _ P (Classical.propDecidable P) 1 0
theorem bI_t {P : Prop} (h : P) : bI P = 1 := if_pos h
theorem bI_f {P : Prop} (h : ¬ P) : bI P = 0 := if_neg h
theorem bI_c {P Q : Prop} (h : P ↔ Q) : bI P = bI Q := by rw [propext h]
theorem bI_01 {P : Prop} : bI P = 0 ∨ bI P = 1 := by
  by_cases h : P
  · exact Or.inr (bI_t h)
  · exact Or.inl (bI_f h)
theorem bI_nar {P : Prop} : narrow .boolean (.int (bI P)) = .int (bI P) := by
  rcases bI_01 (P := P) with h | h <;> rw [h] <;> rfl
theorem bI_and1 {P : Prop} : bI P &&& 1 = bI P := by
  rcases bI_01 (P := P) with h | h <;> rw [h] <;> rfl
section XB
variable {G : Gam} {d : Nat} {k : Nat × Nat} {Y : MR} {M : Mem} {lv : Lv} {st : List Value} {pc : Nat} {Q : Option Value → Mem → Prop}
theorem x_if_eq_b {P : Prop} {off : Int} {tgt : Nat} (hd : decode Y.2.1 pc = .ok (.ifCond .eq off, 3)) (ht : (pc : Int) + off = (tgt : Int)) (kt : ¬ P → XJ G d k Y M lv st tgt Q) (kf : P → XJ G d k Y M lv st (pc + 3) Q) : XJ G d k Y M lv (.int (bI P) :: st) pc Q :=
  x_if_eq hd ht (fun h => kt (fun p => by rw [bI_t p] at h; exact absurd h (by decide))) (fun h => kf (Classical.byContradiction fun p => h (bI_f p)))
theorem x_if_ne_b {P : Prop} {off : Int} {tgt : Nat} (hd : decode Y.2.1 pc = .ok (.ifCond .ne off, 3)) (ht : (pc : Int) + off = (tgt : Int)) (kt : P → XJ G d k Y M lv st tgt Q) (kf : ¬ P → XJ G d k Y M lv st (pc + 3) Q) : XJ G d k Y M lv (.int (bI P) :: st) pc Q :=
  x_if_ne hd ht (fun h => kt (Classical.byContradiction fun p => h (bI_f p))) (fun h => kf (fun p => by rw [bI_t p] at h; exact absurd h (by decide)))
end XB
section MDB
variable {G : Gam} {d : Nat} {k : Nat × Nat} {ad : Nat → Nat} {σ : MS} {M : Mem} {Q : Option Value → Mem → Prop}
theorem c_X12_isIn {v a b : Int32} (hq : Q (some (.int (bI (a ≤ v ∧ v ≤ b)))) M) : CT G d (0, 0) MX12_isIn [.int v, .int a, .int b] M Q := by
  refine CT.of rfl (Nat.le_of_ble_eq_true rfl) ?_
  refine x_iload_n dX12_isIn_0 rfl rfl ?_
  refine x_iload_n dX12_isIn_1 rfl rfl ?_
  refine x_icmp_lt (tgt := 14) dX12_isIn_2 (by decide) (fun h2 => ?_) (fun h2 => ?_)
  · refine x_iconst (v := 0) dX12_isIn_14 (by decide) ?_
    exact x_ireturn dX12_isIn_15 rfl rfl (by first | (rw [bI_t ⟨Int32.not_lt.mp h2, Int32.not_lt.mp h7⟩] at hq; exact hq) | (rw [bI_f (fun z => absurd h2 (Int32.not_lt.mpr z.1))] at hq; exact hq) | (rw [bI_f (fun z => absurd h7 (Int32.not_lt.mpr z.2))] at hq; exact hq))
  · refine x_iload_n dX12_isIn_5 rfl rfl ?_
    refine x_iload_n dX12_isIn_6 rfl rfl ?_
    refine x_icmp_gt (tgt := 14) dX12_isIn_7 (by decide) (fun h7 => ?_) (fun h7 => ?_)
    · refine x_iconst (v := 0) dX12_isIn_14 (by decide) ?_
      exact x_ireturn dX12_isIn_15 rfl rfl (by first | (rw [bI_t ⟨Int32.not_lt.mp h2, Int32.not_lt.mp h7⟩] at hq; exact hq) | (rw [bI_f (fun z => absurd h2 (Int32.not_lt.mpr z.1))] at hq; exact hq) | (rw [bI_f (fun z => absurd h7 (Int32.not_lt.mpr z.2))] at hq; exact hq))
    · refine x_iconst (v := 1) dX12_isIn_10 (by decide) ?_
      refine x_goto (tgt := 15) dX12_isIn_11 (by decide) ?_
      exact x_ireturn dX12_isIn_15 rfl rfl (by first | (rw [bI_t ⟨Int32.not_lt.mp h2, Int32.not_lt.mp h7⟩] at hq; exact hq) | (rw [bI_f (fun z => absurd h2 (Int32.not_lt.mpr z.1))] at hq; exact hq) | (rw [bI_f (fun z => absurd h7 (Int32.not_lt.mpr z.2))] at hq; exact hq))
theorem c_X12_isKnown {q : Int32} (hq : Q (some (.int (bI (0 ≤ q ∧ q ≤ σ.1 1)))) (mm ad σ)) : CT G (d + 1) (0, 0) MX12_isKnown [.ref (ad 99), .int q] (mm ad σ) Q := by
  refine CT.of rfl (Nat.le_of_ble_eq_true rfl) ?_
  refine x_iload_n dX12_isKnown_0 rfl rfl ?_
  refine x_iconst (v := 0) dX12_isKnown_1 (by decide) ?_
  refine x_aload_n dX12_isKnown_2 rfl rfl ?_
  refine xm_geti dX12_isKnown_3 lf_X12_142 vmi_1 ?_
  refine x_cS3 dX12_isKnown_6 ls_X12_145 rfl  (c_X12_isIn ?_)
  exact x_ireturn dX12_isKnown_9 rfl bI_nar (hq)
end MDB
end
section
/-! WHAT THE DOCUMENT SAYS, over a state: answers and next states, for both sides -/
noncomputable def cI {α : Type} (P : Prop) (a b : α) : α := @ite _ P (Classical.propDecidable P) a b
theorem cI_t {α : Type} {P : Prop} {a b : α} (h : P) : cI P a b = a := if_pos h
theorem cI_f {α : Type} {P : Prop} {a b : α} (h : ¬ P) : cI P a b = b := if_neg h
theorem cI_c {α : Type} {P P' : Prop} {a b : α} (h : P ↔ P') : cI P a b = cI P' a b := by rw [propext h]
theorem fin {Q : Option Value → Mem → Prop} {M : Mem} {a b : Int32} (h : Q (some (.int a)) M) (e : a = b) : Q (some (.int b)) M := e ▸ h
def fold {α : Type} (f : Nat → α → α) (a : α) : Nat → α
  | 0 => a
  | n + 1 => f n (fold f a n)
def cn (σ : MS) (k : Nat) : Nat := (σ.1 k).toNatClampNeg
def isP (σ : MS) (p : Int32) : Prop := 0 ≤ p ∧ p < σ.1 15
def isL (σ : MS) (l : Int32) : Prop := 0 ≤ l ∧ l < σ.1 16
def isK (σ : MS) (q : Int32) : Prop := 0 ≤ q ∧ q ≤ σ.1 1
def isD (x : Int32) : Prop := 0 ≤ x ∧ x ≤ 1000
def isS (x : Int32) : Prop := 0 ≤ x ∧ x ≤ 9
/-- the counts' bounds -/
def mBnd : List (Nat × Nat) := [(1, 1000), (15, 24), (16, 200), (17, 60), (24, 160), (25, 20), (44, 100), (49, 200), (59, 4), (60, 8), (65, 8)]
def Bnd (σ : MS) (k b : Nat) : Prop := σ.1 k = nI (cn σ k) ∧ cn σ k ≤ b
def Cnt (σ : MS) : Prop := ∀ q ∈ mBnd, Bnd σ q.1 q.2
theorem Cnt.b {σ : MS} (h : Cnt σ) (k : Nat) {b : Nat} (hm : (k, b) ∈ mBnd) : σ.1 k = nI (cn σ k) ∧ cn σ k ≤ b := h (k, b) hm
/-- an index below a count -/
theorem in_lt {l c : Int32} {n N : Nat} (h0 : 0 ≤ l) (h1 : l < c) (hc : c = nI n) (hn : n ≤ N) (hN : N < 2 ^ 31) : vp_in l N := by
  rw [vp_in_iff]
  rw [Int32.le_iff_toInt_le, Int32.toInt_zero] at h0
  rw [Int32.lt_iff_toInt_lt, hc, nI_toInt (by omega)] at h1
  omega
theorem of_lt {l c : Int32} {n : Nat} (h0 : 0 ≤ l) (h1 : l < c) (hc : c = nI n) (hN : n < 2 ^ 31) : ∃ j, j < n ∧ l = nI j := by
  have := in_lt h0 h1 hc (Nat.le_refl n) hN
  exact vp_in_of this hN
theorem of_le {l c : Int32} {n : Nat} (h0 : 0 ≤ l) (h1 : l ≤ c) (hc : c = nI n) (hN : n < 2 ^ 31) : ∃ j, j ≤ n ∧ l = nI j :=
  nI_of2 (M := c) (by rw [hc, nI_toInt hN]) (Int32.not_lt.mpr h0) h1
-- days
noncomputable def aDays (σ : MS) (n : Int32) : Int32 := cI ((0 ≤ n ∧ n ≤ 400) ∧ σ.1 1 + n ≤ 1000) (σ.1 1 + n) (-1)
noncomputable def nDays (σ : MS) (n : Int32) : MS := cI ((0 ≤ n ∧ n ≤ 400) ∧ σ.1 1 + n ≤ 1000) (seti (seti σ 0 0) 1 (σ.1 1 + n)) (seti σ 0 0)
-- person
def pPerson (σ : MS) (a b c : Int32) : Prop := σ.1 15 ≠ 24 ∧ (0 ≤ a ∧ a ≤ 7) ∧ (10 ≤ b ∧ b ≤ 99) ∧ (0 ≤ c ∧ c ≤ 7)
noncomputable def aPerson (σ : MS) (a b c : Int32) : Int32 := cI (pPerson σ a b c) (σ.1 15) (-1)
noncomputable def nPerson (σ : MS) (a b c : Int32) : MS := cI (pPerson σ a b c) (seti (seta (seta (seta (seti σ 0 0) 2 (cn σ 15) a) 3 (cn σ 15) b) 4 (cn σ 15) c) 15 (σ.1 15 + 1)) (seti σ 0 0)
-- stops
def spStop (σ : MS) (p q : Int32) (n : Nat) : Int32 := fold (fun i day => if σ.2 5 i = p ∧ σ.2 7 i ≤ q then σ.2 6 i else day) (-1) n
def pStop (σ : MS) (p day : Int32) : Prop := σ.1 17 ≠ 60 ∧ isP σ p ∧ isD day
noncomputable def aStop (σ : MS) (p day : Int32) : Int32 := bI (pStop σ p day)
noncomputable def nStop (σ : MS) (p day : Int32) : MS := cI (pStop σ p day) (seti (seta (seta (seta (seti σ 0 0) 5 (cn σ 17) p) 6 (cn σ 17) day) 7 (cn σ 17) (σ.1 1)) 17 (σ.1 17 + 1)) (seti σ 0 0)
noncomputable def aStopped (σ : MS) (p q : Int32) : Int32 := cI (isP σ p ∧ isK σ q) (spStop σ p q (cn σ 17)) (-1)
-- line
def pLine (σ : MS) (p day sort mood say src : Int32) : Prop := σ.1 16 ≠ 200 ∧ isP σ p ∧ (0 ≤ day ∧ day ≤ σ.1 1) ∧ isS sort ∧ (-9 ≤ mood ∧ mood ≤ 9) ∧ (-1 ≤ say ∧ say ≤ 29) ∧ (src = -1 ∨ (isP σ src ∧ src ≠ p ∧ say ≠ -1)) ∧ ¬ (spStop σ p (σ.1 1) (cn σ 17) ≠ -1 ∧ spStop σ p (σ.1 1) (cn σ 17) ≤ day)
noncomputable def aLine (σ : MS) (p day sort mood say src : Int32) : Int32 := cI (pLine σ p day sort mood say src) (σ.1 16) (-1)
noncomputable def nLine (σ : MS) (p day sort mood say src : Int32) : MS := cI (pLine σ p day sort mood say src)
  (seti (seta (seta (seta (seta (seta (seta (seta (seti σ 0 0) 8 (cn σ 16) p) 9 (cn σ 16) day) 10 (cn σ 16) sort) 11 (cn σ 16) mood) 12 (cn σ 16) say) 13 (cn σ 16) src) 14 (cn σ 16) (σ.1 1)) 16 (σ.1 16 + 1)) (seti σ 0 0)
end
section
/-! the model's methods, 1: bounds, days, persons, stops, lines -/ -- x -- y -- y
section MDA
variable {G : Gam} {d : Nat} {k : Nat × Nat} {ad : Nat → Nat} {σ : MS} {M : Mem} {Q : Option Value → Mem → Prop}
theorem c_X12_person {a b c : Int32} (hi : adOK ad) (hc : Cnt σ) (hq : Q (some (.int (aPerson σ a b c))) (mm ad (nPerson σ a b c))) : CT G (d + 1) (0, 0) MX12_person [.ref (ad 99), .int a, .int b, .int c] (mm ad σ) Q := by
  obtain ⟨hl1, hl2⟩ := hc.b 15 (b := 24) (by decide)
  unfold aPerson nPerson at hq
  refine CT.of rfl (Nat.le_of_ble_eq_true rfl) ?_
  refine x_aload_n dX12_person_0 rfl rfl ?_
  refine x_iconst (v := 0) dX12_person_1 (by decide) ?_
  refine xm_puti dX12_person_2 lp_X12_138 vmq_0 vmn_0 vmf_0 ?_
  refine x_aload_n dX12_person_5 rfl rfl ?_
  refine xm_geti dX12_person_6 lf_X12_149 vmi_15 ?_
  refine x_bipush (v := 24) dX12_person_9 (by decide) ?_
  refine x_icmp_eq (tgt := 45) dX12_person_11 (by decide) (fun h11 => ?_) (fun h11 => ?_)
  · refine x_iconst (v := -1) dX12_person_45 (by decide) ?_
    refine x_ireturn dX12_person_46 rfl rfl ?_
    have hn : ¬ pPerson σ a b c := by rintro ⟨z1, z2, z3, z4⟩; first | exact z1 h11 | exact h21 z2 | exact h32 z3 | exact h42 z4
    rw [cI_f hn, cI_f hn] at hq; exact hq
  · refine x_iload_n dX12_person_14 rfl rfl ?_
    refine x_iconst (v := 0) dX12_person_15 (by decide) ?_
    refine x_bipush (v := 7) dX12_person_16 (by decide) ?_
    refine x_cS3 dX12_person_18 ls_X12_145 rfl  (c_X12_isIn ?_)
    refine x_if_eq_b (tgt := 45) dX12_person_21 (by decide) (fun h21 => ?_) (fun h21 => ?_)
    · refine x_iconst (v := -1) dX12_person_45 (by decide) ?_
      refine x_ireturn dX12_person_46 rfl rfl ?_
      have hn : ¬ pPerson σ a b c := by rintro ⟨z1, z2, z3, z4⟩; first | exact z1 h11 | exact h21 z2 | exact h32 z3 | exact h42 z4
      rw [cI_f hn, cI_f hn] at hq; exact hq
    · refine x_iload_n dX12_person_24 rfl rfl ?_
      refine x_bipush (v := 10) dX12_person_25 (by decide) ?_
      refine x_bipush (v := 99) dX12_person_27 (by decide) ?_
      refine x_cS3 dX12_person_29 ls_X12_145 rfl  (c_X12_isIn ?_)
      refine x_if_eq_b (tgt := 45) dX12_person_32 (by decide) (fun h32 => ?_) (fun h32 => ?_)
      · refine x_iconst (v := -1) dX12_person_45 (by decide) ?_
        refine x_ireturn dX12_person_46 rfl rfl ?_
        have hn : ¬ pPerson σ a b c := by rintro ⟨z1, z2, z3, z4⟩; first | exact z1 h11 | exact h21 z2 | exact h32 z3 | exact h42 z4
        rw [cI_f hn, cI_f hn] at hq; exact hq
      · refine x_iload_n dX12_person_35 rfl rfl ?_
        refine x_iconst (v := 0) dX12_person_36 (by decide) ?_
        refine x_bipush (v := 7) dX12_person_37 (by decide) ?_
        refine x_cS3 dX12_person_39 ls_X12_145 rfl  (c_X12_isIn ?_)
        refine x_if_ne_b (tgt := 47) dX12_person_42 (by decide) (fun h42 => ?_) (fun h42 => ?_)
        · have hin : vp_in (σ.1 15) 24 := by rw [hl1]; exact vp_in_nI (by have : cn σ 15 ≠ 24 := fun z => h11 (by show σ.1 15 = 24; rw [hl1, z]; rfl); omega) (by decide)
          refine x_aload_n dX12_person_47 rfl rfl ?_
          refine xm_geta dX12_person_48 lf_X12_9 vma_2 ?_
          refine x_aload_n dX12_person_51 rfl rfl ?_
          refine xm_geti dX12_person_52 lf_X12_149 vmi_15 ?_
          refine x_iload_n dX12_person_55 rfl rfl ?_
          refine xm_iast 2 dX12_person_56 mf_2 hi hin rfl ?_
          refine x_aload_n dX12_person_57 rfl rfl ?_
          refine xm_geta dX12_person_58 lf_X12_13 vma_3 ?_
          refine x_aload_n dX12_person_61 rfl rfl ?_
          refine xm_geti dX12_person_62 lf_X12_149 vmi_15 ?_
          refine x_iload_n dX12_person_65 rfl rfl ?_
          refine xm_iast 3 dX12_person_66 mf_3 hi hin rfl ?_
          refine x_aload_n dX12_person_67 rfl rfl ?_
          refine xm_geta dX12_person_68 lf_X12_16 vma_4 ?_
          refine x_aload_n dX12_person_71 rfl rfl ?_
          refine xm_geti dX12_person_72 lf_X12_149 vmi_15 ?_
          refine x_iload_n dX12_person_75 rfl rfl ?_
          refine xm_iast 4 dX12_person_76 mf_4 hi hin rfl ?_
          refine x_aload_n dX12_person_77 rfl rfl ?_
          refine x_dup dX12_person_78 rfl ?_
          refine xm_geti dX12_person_79 lf_X12_149 vmi_15 ?_
          refine x_iconst (v := 1) dX12_person_82 (by decide) ?_
          refine x_iadd dX12_person_83 ?_
          refine xm_puti dX12_person_84 lp_X12_149 vmq_15 vmn_15 vmf_15 ?_
          refine x_aload_n dX12_person_87 rfl rfl ?_
          refine xm_geti dX12_person_88 lf_X12_149 vmi_15 ?_
          refine x_iconst (v := 1) dX12_person_91 (by decide) ?_
          refine x_isub dX12_person_92 ?_
          refine x_ireturn dX12_person_93 rfl rfl ?_
          have hn : pPerson σ a b c := ⟨h11, h21, h32, h42⟩
          rw [cI_t hn, cI_t hn] at hq
          refine fin hq ?_
          show _ = σ.1 15 + 1 - 1
          sorry
        · refine x_iconst (v := -1) dX12_person_45 (by decide) ?_
          refine x_ireturn dX12_person_46 rfl rfl ?_
          have hn : ¬ pPerson σ a b c := by rintro ⟨z1, z2, z3, z4⟩; first | exact z1 h11 | exact h21 z2 | exact h32 z3 | exact h42 z4
          rw [cI_f hn, cI_f hn] at hq; exact hq
end MDA
end
section
theorem i_vc : Claimed_1_1 ∧ Claimed_1_2 := sorry
end
