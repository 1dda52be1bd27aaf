section
-- ===== PART A: goes FIRST, ahead of the names: the tables' words, and 'selects' of the private methods out of them =====
/-- a private method of a class that the tables say can be made, by its rows of tables_1 -/
def lw_okq (q : MethodName × Nat) : Prop := (q.1.cls ≠ "java/lang/invoke/MethodHandle" ∧ q.1.cls ≠ "java/lang/invoke/VarHandle") ∧ Cond.instantiable q.1.cls q.2 ∈ tables_1 ∧ Cond.privateMethod q.1 ∈ tables_1 ∧ Cond.instanceMethod q.1 ∈ tables_1
theorem lw_p0 : lw_okq (⟨"java/util/ArrayList", "add", "(Ljava/lang/Object;[Ljava/lang/Object;I)V"⟩, 3) := ⟨⟨by decide +kernel, by decide +kernel⟩, List.mem_of_getElem? (i := 41) (by decide +kernel), List.mem_of_getElem? (i := 264) (by decide +kernel), List.mem_of_getElem? (i := 265) (by decide +kernel)⟩
theorem lw_p1 : lw_okq (⟨"java/util/ArrayList", "grow", "()[Ljava/lang/Object;"⟩, 3) := ⟨⟨by decide +kernel, by decide +kernel⟩, List.mem_of_getElem? (i := 41) (by decide +kernel), List.mem_of_getElem? (i := 268) (by decide +kernel), List.mem_of_getElem? (i := 269) (by decide +kernel)⟩
theorem lw_p2 : lw_okq (⟨"java/util/ArrayList", "grow", "(I)[Ljava/lang/Object;"⟩, 3) := ⟨⟨by decide +kernel, by decide +kernel⟩, List.mem_of_getElem? (i := 41) (by decide +kernel), List.mem_of_getElem? (i := 272) (by decide +kernel), List.mem_of_getElem? (i := 273) (by decide +kernel)⟩
theorem lw_p3 : lw_okq (⟨"DiaryHouse", "isPerson", "(I)Z"⟩, 17) := ⟨⟨by decide +kernel, by decide +kernel⟩, List.mem_of_getElem? (i := 33) (by decide +kernel), List.mem_of_getElem? (i := 326) (by decide +kernel), List.mem_of_getElem? (i := 327) (by decide +kernel)⟩
theorem lw_p4 : lw_okq (⟨"DiaryHouse", "isHearing", "(III)Z"⟩, 17) := ⟨⟨by decide +kernel, by decide +kernel⟩, List.mem_of_getElem? (i := 33) (by decide +kernel), List.mem_of_getElem? (i := 333) (by decide +kernel), List.mem_of_getElem? (i := 334) (by decide +kernel)⟩
theorem lw_p5 : lw_okq (⟨"DiaryHouse", "hasStoppedBy", "(III)Z"⟩, 17) := ⟨⟨by decide +kernel, by decide +kernel⟩, List.mem_of_getElem? (i := 33) (by decide +kernel), List.mem_of_getElem? (i := 340) (by decide +kernel), List.mem_of_getElem? (i := 341) (by decide +kernel)⟩
theorem lw_p6 : lw_okq (⟨"DiaryHouse", "stopDayOf", "(II)I"⟩, 17) := ⟨⟨by decide +kernel, by decide +kernel⟩, List.mem_of_getElem? (i := 33) (by decide +kernel), List.mem_of_getElem? (i := 344) (by decide +kernel), List.mem_of_getElem? (i := 345) (by decide +kernel)⟩
theorem lw_p7 : lw_okq (⟨"DiaryHouse", "isKnownDay", "(I)Z"⟩, 17) := ⟨⟨by decide +kernel, by decide +kernel⟩, List.mem_of_getElem? (i := 33) (by decide +kernel), List.mem_of_getElem? (i := 427) (by decide +kernel), List.mem_of_getElem? (i := 428) (by decide +kernel)⟩
theorem lw_p8 : lw_okq (⟨"DiaryHouse$Tape", "readClause", "()Z"⟩, 5) := ⟨⟨by decide +kernel, by decide +kernel⟩, List.mem_of_getElem? (i := 67) (by decide +kernel), List.mem_of_getElem? (i := 462) (by decide +kernel), List.mem_of_getElem? (i := 463) (by decide +kernel)⟩
theorem lw_p9 : lw_okq (⟨"DiaryHouse$Tape", "sees", "(Ljava/lang/String;)Z"⟩, 5) := ⟨⟨by decide +kernel, by decide +kernel⟩, List.mem_of_getElem? (i := 67) (by decide +kernel), List.mem_of_getElem? (i := 467) (by decide +kernel), List.mem_of_getElem? (i := 468) (by decide +kernel)⟩
theorem lw_p10 : lw_okq (⟨"DiaryHouse$Tape", "takeSign", "()C"⟩, 5) := ⟨⟨by decide +kernel, by decide +kernel⟩, List.mem_of_getElem? (i := 67) (by decide +kernel), List.mem_of_getElem? (i := 544) (by decide +kernel), List.mem_of_getElem? (i := 545) (by decide +kernel)⟩
theorem lw_p11 : lw_okq (⟨"DiaryHouse$Tape", "addCode", "(I)V"⟩, 5) := ⟨⟨by decide +kernel, by decide +kernel⟩, List.mem_of_getElem? (i := 67) (by decide +kernel), List.mem_of_getElem? (i := 548) (by decide +kernel), List.mem_of_getElem? (i := 549) (by decide +kernel)⟩
theorem lw_p12 : lw_okq (⟨"DiaryHouse$Tape", "take", "(Ljava/lang/String;)Z"⟩, 5) := ⟨⟨by decide +kernel, by decide +kernel⟩, List.mem_of_getElem? (i := 67) (by decide +kernel), List.mem_of_getElem? (i := 553) (by decide +kernel), List.mem_of_getElem? (i := 554) (by decide +kernel)⟩
theorem lw_p13 : lw_okq (⟨"DiaryHouse$Tape", "readCondition", "(I)Z"⟩, 5) := ⟨⟨by decide +kernel, by decide +kernel⟩, List.mem_of_getElem? (i := 67) (by decide +kernel), List.mem_of_getElem? (i := 558) (by decide +kernel), List.mem_of_getElem? (i := 559) (by decide +kernel)⟩
theorem lw_p14 : lw_okq (⟨"DiaryHouse$Tape", "readPart", "(I)Z"⟩, 5) := ⟨⟨by decide +kernel, by decide +kernel⟩, List.mem_of_getElem? (i := 67) (by decide +kernel), List.mem_of_getElem? (i := 562) (by decide +kernel), List.mem_of_getElem? (i := 563) (by decide +kernel)⟩
theorem lw_p15 : lw_okq (⟨"DiaryHouse$Tape", "readUnit", "(I)Z"⟩, 5) := ⟨⟨by decide +kernel, by decide +kernel⟩, List.mem_of_getElem? (i := 67) (by decide +kernel), List.mem_of_getElem? (i := 566) (by decide +kernel), List.mem_of_getElem? (i := 567) (by decide +kernel)⟩
def lw_privs_1 : List (MethodName × Nat) := [(⟨"java/util/ArrayList", "add", "(Ljava/lang/Object;[Ljava/lang/Object;I)V"⟩, 3), (⟨"java/util/ArrayList", "grow", "()[Ljava/lang/Object;"⟩, 3), (⟨"java/util/ArrayList", "grow", "(I)[Ljava/lang/Object;"⟩, 3), (⟨"DiaryHouse", "isPerson", "(I)Z"⟩, 17), (⟨"DiaryHouse", "isHearing", "(III)Z"⟩, 17), (⟨"DiaryHouse", "hasStoppedBy", "(III)Z"⟩, 17), (⟨"DiaryHouse", "stopDayOf", "(II)I"⟩, 17), (⟨"DiaryHouse", "isKnownDay", "(I)Z"⟩, 17), (⟨"DiaryHouse$Tape", "readClause", "()Z"⟩, 5), (⟨"DiaryHouse$Tape", "sees", "(Ljava/lang/String;)Z"⟩, 5), (⟨"DiaryHouse$Tape", "takeSign", "()C"⟩, 5), (⟨"DiaryHouse$Tape", "addCode", "(I)V"⟩, 5), (⟨"DiaryHouse$Tape", "take", "(Ljava/lang/String;)Z"⟩, 5), (⟨"DiaryHouse$Tape", "readCondition", "(I)Z"⟩, 5), (⟨"DiaryHouse$Tape", "readPart", "(I)Z"⟩, 5), (⟨"DiaryHouse$Tape", "readUnit", "(I)Z"⟩, 5)]
theorem lw_r1 : ∀ q ∈ lw_privs_1, lw_okq q := List.forall_mem_cons.mpr ⟨lw_p0, List.forall_mem_cons.mpr ⟨lw_p1, List.forall_mem_cons.mpr ⟨lw_p2, List.forall_mem_cons.mpr ⟨lw_p3, List.forall_mem_cons.mpr ⟨lw_p4, List.forall_mem_cons.mpr ⟨lw_p5, List.forall_mem_cons.mpr ⟨lw_p6, List.forall_mem_cons.mpr ⟨lw_p7, List.forall_mem_cons.mpr ⟨lw_p8, List.forall_mem_cons.mpr ⟨lw_p9, List.forall_mem_cons.mpr ⟨lw_p10, List.forall_mem_cons.mpr ⟨lw_p11, List.forall_mem_cons.mpr ⟨lw_p12, List.forall_mem_cons.mpr ⟨lw_p13, List.forall_mem_cons.mpr ⟨lw_p14, List.forall_mem_cons.mpr ⟨lw_p15, fun _ h => absurd h List.not_mem_nil⟩⟩⟩⟩⟩⟩⟩⟩⟩⟩⟩⟩⟩⟩⟩⟩
theorem lw_p16 : lw_okq (⟨"DiaryHouse$Tape", "readSum", "(I)Z"⟩, 5) := ⟨⟨by decide +kernel, by decide +kernel⟩, List.mem_of_getElem? (i := 67) (by decide +kernel), List.mem_of_getElem? (i := 573) (by decide +kernel), List.mem_of_getElem? (i := 574) (by decide +kernel)⟩
theorem lw_p17 : lw_okq (⟨"DiaryHouse$Tape", "readTerm", "(I)Z"⟩, 5) := ⟨⟨by decide +kernel, by decide +kernel⟩, List.mem_of_getElem? (i := 67) (by decide +kernel), List.mem_of_getElem? (i := 577) (by decide +kernel), List.mem_of_getElem? (i := 578) (by decide +kernel)⟩
theorem lw_p18 : lw_okq (⟨"DiaryHouse$Tape", "readAtom", "(I)Z"⟩, 5) := ⟨⟨by decide +kernel, by decide +kernel⟩, List.mem_of_getElem? (i := 67) (by decide +kernel), List.mem_of_getElem? (i := 581) (by decide +kernel), List.mem_of_getElem? (i := 582) (by decide +kernel)⟩
theorem lw_p19 : lw_okq (⟨"DiaryHouse$Tape", "readNumber", "()Z"⟩, 5) := ⟨⟨by decide +kernel, by decide +kernel⟩, List.mem_of_getElem? (i := 67) (by decide +kernel), List.mem_of_getElem? (i := 588) (by decide +kernel), List.mem_of_getElem? (i := 589) (by decide +kernel)⟩
theorem lw_p20 : lw_okq (⟨"DiaryHouse$Tape", "readComparison", "(I)Z"⟩, 5) := ⟨⟨by decide +kernel, by decide +kernel⟩, List.mem_of_getElem? (i := 67) (by decide +kernel), List.mem_of_getElem? (i := 595) (by decide +kernel), List.mem_of_getElem? (i := 596) (by decide +kernel)⟩
theorem lw_p21 : lw_okq (⟨"DiaryHouse$Tape", "readMoreUnits", "(I)Z"⟩, 5) := ⟨⟨by decide +kernel, by decide +kernel⟩, List.mem_of_getElem? (i := 67) (by decide +kernel), List.mem_of_getElem? (i := 600) (by decide +kernel), List.mem_of_getElem? (i := 601) (by decide +kernel)⟩
theorem lw_p22 : lw_okq (⟨"DiaryHouse$Tape", "readMoreParts", "(I)Z"⟩, 5) := ⟨⟨by decide +kernel, by decide +kernel⟩, List.mem_of_getElem? (i := 67) (by decide +kernel), List.mem_of_getElem? (i := 605) (by decide +kernel), List.mem_of_getElem? (i := 606) (by decide +kernel)⟩
theorem lw_p23 : lw_okq (⟨"DiaryHouse", "ruleInForce", "(II)I"⟩, 17) := ⟨⟨by decide +kernel, by decide +kernel⟩, List.mem_of_getElem? (i := 33) (by decide +kernel), List.mem_of_getElem? (i := 652) (by decide +kernel), List.mem_of_getElem? (i := 653) (by decide +kernel)⟩
theorem lw_p24 : lw_okq (⟨"DiaryHouse", "setPersonLetters", "(LDiaryHouse$Person;)V"⟩, 17) := ⟨⟨by decide +kernel, by decide +kernel⟩, List.mem_of_getElem? (i := 33) (by decide +kernel), List.mem_of_getElem? (i := 660) (by decide +kernel), List.mem_of_getElem? (i := 661) (by decide +kernel)⟩
theorem lw_p25 : lw_okq (⟨"DiaryHouse", "worthOf", "(CI)I"⟩, 17) := ⟨⟨by decide +kernel, by decide +kernel⟩, List.mem_of_getElem? (i := 33) (by decide +kernel), List.mem_of_getElem? (i := 667) (by decide +kernel), List.mem_of_getElem? (i := 668) (by decide +kernel)⟩
theorem lw_p26 : lw_okq (⟨"DiaryHouse", "isLineKnown", "(II)Z"⟩, 17) := ⟨⟨by decide +kernel, by decide +kernel⟩, List.mem_of_getElem? (i := 33) (by decide +kernel), List.mem_of_getElem? (i := 708) (by decide +kernel), List.mem_of_getElem? (i := 709) (by decide +kernel)⟩
theorem lw_p27 : lw_okq (⟨"DiaryHouse", "isLine", "(I)Z"⟩, 17) := ⟨⟨by decide +kernel, by decide +kernel⟩, List.mem_of_getElem? (i := 33) (by decide +kernel), List.mem_of_getElem? (i := 712) (by decide +kernel), List.mem_of_getElem? (i := 713) (by decide +kernel)⟩
theorem lw_p28 : lw_okq (⟨"DiaryHouse", "mayBeShown", "(LDiaryHouse$Line;III)Z"⟩, 17) := ⟨⟨by decide +kernel, by decide +kernel⟩, List.mem_of_getElem? (i := 33) (by decide +kernel), List.mem_of_getElem? (i := 719) (by decide +kernel), List.mem_of_getElem? (i := 720) (by decide +kernel)⟩
theorem lw_p29 : lw_okq (⟨"DiaryHouse", "isDigest", "(IIII)Z"⟩, 17) := ⟨⟨by decide +kernel, by decide +kernel⟩, List.mem_of_getElem? (i := 33) (by decide +kernel), List.mem_of_getElem? (i := 727) (by decide +kernel), List.mem_of_getElem? (i := 728) (by decide +kernel)⟩
theorem lw_p30 : lw_okq (⟨"DiaryHouse", "pickDigest", "(IIII)I"⟩, 17) := ⟨⟨by decide +kernel, by decide +kernel⟩, List.mem_of_getElem? (i := 33) (by decide +kernel), List.mem_of_getElem? (i := 731) (by decide +kernel), List.mem_of_getElem? (i := 732) (by decide +kernel)⟩
theorem lw_p31 : lw_okq (⟨"DiaryHouse", "digestSize", "(III)I"⟩, 17) := ⟨⟨by decide +kernel, by decide +kernel⟩, List.mem_of_getElem? (i := 33) (by decide +kernel), List.mem_of_getElem? (i := 735) (by decide +kernel), List.mem_of_getElem? (i := 736) (by decide +kernel)⟩
def lw_privs_2 : List (MethodName × Nat) := [(⟨"DiaryHouse$Tape", "readSum", "(I)Z"⟩, 5), (⟨"DiaryHouse$Tape", "readTerm", "(I)Z"⟩, 5), (⟨"DiaryHouse$Tape", "readAtom", "(I)Z"⟩, 5), (⟨"DiaryHouse$Tape", "readNumber", "()Z"⟩, 5), (⟨"DiaryHouse$Tape", "readComparison", "(I)Z"⟩, 5), (⟨"DiaryHouse$Tape", "readMoreUnits", "(I)Z"⟩, 5), (⟨"DiaryHouse$Tape", "readMoreParts", "(I)Z"⟩, 5), (⟨"DiaryHouse", "ruleInForce", "(II)I"⟩, 17), (⟨"DiaryHouse", "setPersonLetters", "(LDiaryHouse$Person;)V"⟩, 17), (⟨"DiaryHouse", "worthOf", "(CI)I"⟩, 17), (⟨"DiaryHouse", "isLineKnown", "(II)Z"⟩, 17), (⟨"DiaryHouse", "isLine", "(I)Z"⟩, 17), (⟨"DiaryHouse", "mayBeShown", "(LDiaryHouse$Line;III)Z"⟩, 17), (⟨"DiaryHouse", "isDigest", "(IIII)Z"⟩, 17), (⟨"DiaryHouse", "pickDigest", "(IIII)I"⟩, 17), (⟨"DiaryHouse", "digestSize", "(III)I"⟩, 17)]
theorem lw_r2 : ∀ q ∈ lw_privs_2, lw_okq q := List.forall_mem_cons.mpr ⟨lw_p16, List.forall_mem_cons.mpr ⟨lw_p17, List.forall_mem_cons.mpr ⟨lw_p18, List.forall_mem_cons.mpr ⟨lw_p19, List.forall_mem_cons.mpr ⟨lw_p20, List.forall_mem_cons.mpr ⟨lw_p21, List.forall_mem_cons.mpr ⟨lw_p22, List.forall_mem_cons.mpr ⟨lw_p23, List.forall_mem_cons.mpr ⟨lw_p24, List.forall_mem_cons.mpr ⟨lw_p25, List.forall_mem_cons.mpr ⟨lw_p26, List.forall_mem_cons.mpr ⟨lw_p27, List.forall_mem_cons.mpr ⟨lw_p28, List.forall_mem_cons.mpr ⟨lw_p29, List.forall_mem_cons.mpr ⟨lw_p30, List.forall_mem_cons.mpr ⟨lw_p31, fun _ h => absurd h List.not_mem_nil⟩⟩⟩⟩⟩⟩⟩⟩⟩⟩⟩⟩⟩⟩⟩⟩
theorem lw_p32 : lw_okq (⟨"DiaryHouse", "insertPick", "(III)I"⟩, 17) := ⟨⟨by decide +kernel, by decide +kernel⟩, List.mem_of_getElem? (i := 33) (by decide +kernel), List.mem_of_getElem? (i := 745) (by decide +kernel), List.mem_of_getElem? (i := 746) (by decide +kernel)⟩
theorem lw_p33 : lw_okq (⟨"DiaryHouse", "strengthOf", "(I)I"⟩, 17) := ⟨⟨by decide +kernel, by decide +kernel⟩, List.mem_of_getElem? (i := 33) (by decide +kernel), List.mem_of_getElem? (i := 749) (by decide +kernel), List.mem_of_getElem? (i := 750) (by decide +kernel)⟩
theorem lw_p34 : lw_okq (⟨"DiaryHouse", "linesFor", "(II)I"⟩, 17) := ⟨⟨by decide +kernel, by decide +kernel⟩, List.mem_of_getElem? (i := 33) (by decide +kernel), List.mem_of_getElem? (i := 760) (by decide +kernel), List.mem_of_getElem? (i := 761) (by decide +kernel)⟩
theorem lw_p35 : lw_okq (⟨"DiaryHouse", "wordOf", "(III)LDiaryHouse$Line;"⟩, 17) := ⟨⟨by decide +kernel, by decide +kernel⟩, List.mem_of_getElem? (i := 33) (by decide +kernel), List.mem_of_getElem? (i := 804) (by decide +kernel), List.mem_of_getElem? (i := 805) (by decide +kernel)⟩
theorem lw_p36 : lw_okq (⟨"DiaryHouse", "layMarks", "(I)V"⟩, 17) := ⟨⟨by decide +kernel, by decide +kernel⟩, List.mem_of_getElem? (i := 33) (by decide +kernel), List.mem_of_getElem? (i := 849) (by decide +kernel), List.mem_of_getElem? (i := 850) (by decide +kernel)⟩
theorem lw_p37 : lw_okq (⟨"DiaryHouse", "readersGiving", "(II)I"⟩, 17) := ⟨⟨by decide +kernel, by decide +kernel⟩, List.mem_of_getElem? (i := 33) (by decide +kernel), List.mem_of_getElem? (i := 869) (by decide +kernel), List.mem_of_getElem? (i := 870) (by decide +kernel)⟩
theorem lw_p38 : lw_okq (⟨"DiaryHouse", "allPeople", "()I"⟩, 17) := ⟨⟨by decide +kernel, by decide +kernel⟩, List.mem_of_getElem? (i := 33) (by decide +kernel), List.mem_of_getElem? (i := 881) (by decide +kernel), List.mem_of_getElem? (i := 882) (by decide +kernel)⟩
theorem lw_p39 : lw_okq (⟨"DiaryHouse", "meanMood", "(IIIII)I"⟩, 17) := ⟨⟨by decide +kernel, by decide +kernel⟩, List.mem_of_getElem? (i := 33) (by decide +kernel), List.mem_of_getElem? (i := 885) (by decide +kernel), List.mem_of_getElem? (i := 886) (by decide +kernel)⟩
theorem lw_p40 : lw_okq (⟨"DiaryHouse$Turn", "sumAhead", "(I)I"⟩, 3) := ⟨⟨by decide +kernel, by decide +kernel⟩, List.mem_of_getElem? (i := 125) (by decide +kernel), List.mem_of_getElem? (i := 913) (by decide +kernel), List.mem_of_getElem? (i := 914) (by decide +kernel)⟩
theorem lw_p41 : lw_okq (⟨"DiaryHouse$Turn", "distance", "(III)J"⟩, 3) := ⟨⟨by decide +kernel, by decide +kernel⟩, List.mem_of_getElem? (i := 125) (by decide +kernel), List.mem_of_getElem? (i := 917) (by decide +kernel), List.mem_of_getElem? (i := 918) (by decide +kernel)⟩
theorem lw_p42 : lw_okq (⟨"DiaryHouse", "lastOf", "(II)I"⟩, 17) := ⟨⟨by decide +kernel, by decide +kernel⟩, List.mem_of_getElem? (i := 33) (by decide +kernel), List.mem_of_getElem? (i := 937) (by decide +kernel), List.mem_of_getElem? (i := 938) (by decide +kernel)⟩
theorem lw_p43 : lw_okq (⟨"DiaryHouse$Table", "planAnew", "()V"⟩, 9) := ⟨⟨by decide +kernel, by decide +kernel⟩, List.mem_of_getElem? (i := 91) (by decide +kernel), List.mem_of_getElem? (i := 956) (by decide +kernel), List.mem_of_getElem? (i := 957) (by decide +kernel)⟩
theorem lw_p44 : lw_okq (⟨"DiaryHouse$Table", "canSee", "(II)Z"⟩, 9) := ⟨⟨by decide +kernel, by decide +kernel⟩, List.mem_of_getElem? (i := 91) (by decide +kernel), List.mem_of_getElem? (i := 964) (by decide +kernel), List.mem_of_getElem? (i := 965) (by decide +kernel)⟩
theorem lw_p45 : lw_okq (⟨"DiaryHouse$Table", "canBothBeSeen", "(II)Z"⟩, 9) := ⟨⟨by decide +kernel, by decide +kernel⟩, List.mem_of_getElem? (i := 91) (by decide +kernel), List.mem_of_getElem? (i := 969) (by decide +kernel), List.mem_of_getElem? (i := 970) (by decide +kernel)⟩
theorem lw_p46 : lw_okq (⟨"DiaryHouse", "alikeTo", "(LDiaryHouse$Person;I)I"⟩, 17) := ⟨⟨by decide +kernel, by decide +kernel⟩, List.mem_of_getElem? (i := 33) (by decide +kernel), List.mem_of_getElem? (i := 1002) (by decide +kernel), List.mem_of_getElem? (i := 1003) (by decide +kernel)⟩
theorem lw_p47 : lw_okq (⟨"DiaryHouse", "allHaveAlike", "(II)Z"⟩, 17) := ⟨⟨by decide +kernel, by decide +kernel⟩, List.mem_of_getElem? (i := 33) (by decide +kernel), List.mem_of_getElem? (i := 1016) (by decide +kernel), List.mem_of_getElem? (i := 1017) (by decide +kernel)⟩
def lw_privs_3 : List (MethodName × Nat) := [(⟨"DiaryHouse", "insertPick", "(III)I"⟩, 17), (⟨"DiaryHouse", "strengthOf", "(I)I"⟩, 17), (⟨"DiaryHouse", "linesFor", "(II)I"⟩, 17), (⟨"DiaryHouse", "wordOf", "(III)LDiaryHouse$Line;"⟩, 17), (⟨"DiaryHouse", "layMarks", "(I)V"⟩, 17), (⟨"DiaryHouse", "readersGiving", "(II)I"⟩, 17), (⟨"DiaryHouse", "allPeople", "()I"⟩, 17), (⟨"DiaryHouse", "meanMood", "(IIIII)I"⟩, 17), (⟨"DiaryHouse$Turn", "sumAhead", "(I)I"⟩, 3), (⟨"DiaryHouse$Turn", "distance", "(III)J"⟩, 3), (⟨"DiaryHouse", "lastOf", "(II)I"⟩, 17), (⟨"DiaryHouse$Table", "planAnew", "()V"⟩, 9), (⟨"DiaryHouse$Table", "canSee", "(II)Z"⟩, 9), (⟨"DiaryHouse$Table", "canBothBeSeen", "(II)Z"⟩, 9), (⟨"DiaryHouse", "alikeTo", "(LDiaryHouse$Person;I)I"⟩, 17), (⟨"DiaryHouse", "allHaveAlike", "(II)Z"⟩, 17)]
theorem lw_r3 : ∀ q ∈ lw_privs_3, lw_okq q := List.forall_mem_cons.mpr ⟨lw_p32, List.forall_mem_cons.mpr ⟨lw_p33, List.forall_mem_cons.mpr ⟨lw_p34, List.forall_mem_cons.mpr ⟨lw_p35, List.forall_mem_cons.mpr ⟨lw_p36, List.forall_mem_cons.mpr ⟨lw_p37, List.forall_mem_cons.mpr ⟨lw_p38, List.forall_mem_cons.mpr ⟨lw_p39, List.forall_mem_cons.mpr ⟨lw_p40, List.forall_mem_cons.mpr ⟨lw_p41, List.forall_mem_cons.mpr ⟨lw_p42, List.forall_mem_cons.mpr ⟨lw_p43, List.forall_mem_cons.mpr ⟨lw_p44, List.forall_mem_cons.mpr ⟨lw_p45, List.forall_mem_cons.mpr ⟨lw_p46, List.forall_mem_cons.mpr ⟨lw_p47, fun _ h => absurd h List.not_mem_nil⟩⟩⟩⟩⟩⟩⟩⟩⟩⟩⟩⟩⟩⟩⟩⟩
theorem lw_p48 : lw_okq (⟨"DiaryHouse", "priceOf", "(I)I"⟩, 17) := ⟨⟨by decide +kernel, by decide +kernel⟩, List.mem_of_getElem? (i := 33) (by decide +kernel), List.mem_of_getElem? (i := 1046) (by decide +kernel), List.mem_of_getElem? (i := 1047) (by decide +kernel)⟩
theorem lw_p49 : lw_okq (⟨"DiaryHouse", "sortsOf", "(I)I"⟩, 17) := ⟨⟨by decide +kernel, by decide +kernel⟩, List.mem_of_getElem? (i := 33) (by decide +kernel), List.mem_of_getElem? (i := 1050) (by decide +kernel), List.mem_of_getElem? (i := 1051) (by decide +kernel)⟩
theorem lw_p50 : lw_okq (⟨"DiaryHouse", "isLotSize", "(I)Z"⟩, 17) := ⟨⟨by decide +kernel, by decide +kernel⟩, List.mem_of_getElem? (i := 33) (by decide +kernel), List.mem_of_getElem? (i := 1071) (by decide +kernel), List.mem_of_getElem? (i := 1072) (by decide +kernel)⟩
theorem lw_p51 : lw_okq (⟨"DiaryHouse", "draw", "(IJ)V"⟩, 17) := ⟨⟨by decide +kernel, by decide +kernel⟩, List.mem_of_getElem? (i := 33) (by decide +kernel), List.mem_of_getElem? (i := 1075) (by decide +kernel), List.mem_of_getElem? (i := 1076) (by decide +kernel)⟩
theorem lw_p52 : lw_okq (⟨"DiaryHouse", "isDrawn", "(II)Z"⟩, 17) := ⟨⟨by decide +kernel, by decide +kernel⟩, List.mem_of_getElem? (i := 33) (by decide +kernel), List.mem_of_getElem? (i := 1085) (by decide +kernel), List.mem_of_getElem? (i := 1086) (by decide +kernel)⟩
theorem lw_p53 : lw_okq (⟨"DiaryHouse", "personsGone", "()I"⟩, 17) := ⟨⟨by decide +kernel, by decide +kernel⟩, List.mem_of_getElem? (i := 33) (by decide +kernel), List.mem_of_getElem? (i := 1097) (by decide +kernel), List.mem_of_getElem? (i := 1098) (by decide +kernel)⟩
theorem lw_p54 : lw_okq (⟨"java/lang/Throwable", "fillInStackTrace", "(I)Ljava/lang/Throwable;"⟩, 6) := ⟨⟨by decide +kernel, by decide +kernel⟩, List.mem_of_getElem? (i := 1145) (by decide +kernel), List.mem_of_getElem? (i := 1143) (by decide +kernel), List.mem_of_getElem? (i := 1144) (by decide +kernel)⟩
theorem lw_p55 : lw_okq (⟨"DiaryHouseModel", "isPerson", "(I)Z"⟩, 66) := ⟨⟨by decide +kernel, by decide +kernel⟩, List.mem_of_getElem? (i := 1178) (by decide +kernel), List.mem_of_getElem? (i := 1403) (by decide +kernel), List.mem_of_getElem? (i := 1404) (by decide +kernel)⟩
theorem lw_p56 : lw_okq (⟨"DiaryHouseModel", "stopsFrom", "(II)I"⟩, 66) := ⟨⟨by decide +kernel, by decide +kernel⟩, List.mem_of_getElem? (i := 1178) (by decide +kernel), List.mem_of_getElem? (i := 1410) (by decide +kernel), List.mem_of_getElem? (i := 1411) (by decide +kernel)⟩
theorem lw_p57 : lw_okq (⟨"DiaryHouseModel", "isLine", "(I)Z"⟩, 66) := ⟨⟨by decide +kernel, by decide +kernel⟩, List.mem_of_getElem? (i := 1178) (by decide +kernel), List.mem_of_getElem? (i := 1418) (by decide +kernel), List.mem_of_getElem? (i := 1419) (by decide +kernel)⟩
theorem lw_p58 : lw_okq (⟨"DiaryHouseModel", "isKnown", "(I)Z"⟩, 66) := ⟨⟨by decide +kernel, by decide +kernel⟩, List.mem_of_getElem? (i := 1178) (by decide +kernel), List.mem_of_getElem? (i := 1433) (by decide +kernel), List.mem_of_getElem? (i := 1434) (by decide +kernel)⟩
theorem lw_p59 : lw_okq (⟨"DiaryHouseModel", "put", "(I)V"⟩, 66) := ⟨⟨by decide +kernel, by decide +kernel⟩, List.mem_of_getElem? (i := 1178) (by decide +kernel), List.mem_of_getElem? (i := 1444) (by decide +kernel), List.mem_of_getElem? (i := 1445) (by decide +kernel)⟩
theorem lw_p60 : lw_okq (⟨"DiaryHouseModel", "goThrough", "([BIII)V"⟩, 66) := ⟨⟨by decide +kernel, by decide +kernel⟩, List.mem_of_getElem? (i := 1178) (by decide +kernel), List.mem_of_getElem? (i := 1456) (by decide +kernel), List.mem_of_getElem? (i := 1457) (by decide +kernel)⟩
theorem lw_p61 : lw_okq (⟨"DiaryHouseModel", "clause", "()V"⟩, 66) := ⟨⟨by decide +kernel, by decide +kernel⟩, List.mem_of_getElem? (i := 1178) (by decide +kernel), List.mem_of_getElem? (i := 1460) (by decide +kernel), List.mem_of_getElem? (i := 1461) (by decide +kernel)⟩
theorem lw_p62 : lw_okq (⟨"DiaryHouseModel", "look", "()I"⟩, 66) := ⟨⟨by decide +kernel, by decide +kernel⟩, List.mem_of_getElem? (i := 1178) (by decide +kernel), List.mem_of_getElem? (i := 1464) (by decide +kernel), List.mem_of_getElem? (i := 1465) (by decide +kernel)⟩
theorem lw_p63 : lw_okq (⟨"DiaryHouseModel", "fails", "()Z"⟩, 66) := ⟨⟨by decide +kernel, by decide +kernel⟩, List.mem_of_getElem? (i := 1178) (by decide +kernel), List.mem_of_getElem? (i := 1470) (by decide +kernel), List.mem_of_getElem? (i := 1471) (by decide +kernel)⟩
def lw_privs_4 : List (MethodName × Nat) := [(⟨"DiaryHouse", "priceOf", "(I)I"⟩, 17), (⟨"DiaryHouse", "sortsOf", "(I)I"⟩, 17), (⟨"DiaryHouse", "isLotSize", "(I)Z"⟩, 17), (⟨"DiaryHouse", "draw", "(IJ)V"⟩, 17), (⟨"DiaryHouse", "isDrawn", "(II)Z"⟩, 17), (⟨"DiaryHouse", "personsGone", "()I"⟩, 17), (⟨"java/lang/Throwable", "fillInStackTrace", "(I)Ljava/lang/Throwable;"⟩, 6), (⟨"DiaryHouseModel", "isPerson", "(I)Z"⟩, 66), (⟨"DiaryHouseModel", "stopsFrom", "(II)I"⟩, 66), (⟨"DiaryHouseModel", "isLine", "(I)Z"⟩, 66), (⟨"DiaryHouseModel", "isKnown", "(I)Z"⟩, 66), (⟨"DiaryHouseModel", "put", "(I)V"⟩, 66), (⟨"DiaryHouseModel", "goThrough", "([BIII)V"⟩, 66), (⟨"DiaryHouseModel", "clause", "()V"⟩, 66), (⟨"DiaryHouseModel", "look", "()I"⟩, 66), (⟨"DiaryHouseModel", "fails", "()Z"⟩, 66)]
theorem lw_r4 : ∀ q ∈ lw_privs_4, lw_okq q := List.forall_mem_cons.mpr ⟨lw_p48, List.forall_mem_cons.mpr ⟨lw_p49, List.forall_mem_cons.mpr ⟨lw_p50, List.forall_mem_cons.mpr ⟨lw_p51, List.forall_mem_cons.mpr ⟨lw_p52, List.forall_mem_cons.mpr ⟨lw_p53, List.forall_mem_cons.mpr ⟨lw_p54, List.forall_mem_cons.mpr ⟨lw_p55, List.forall_mem_cons.mpr ⟨lw_p56, List.forall_mem_cons.mpr ⟨lw_p57, List.forall_mem_cons.mpr ⟨lw_p58, List.forall_mem_cons.mpr ⟨lw_p59, List.forall_mem_cons.mpr ⟨lw_p60, List.forall_mem_cons.mpr ⟨lw_p61, List.forall_mem_cons.mpr ⟨lw_p62, List.forall_mem_cons.mpr ⟨lw_p63, fun _ h => absurd h List.not_mem_nil⟩⟩⟩⟩⟩⟩⟩⟩⟩⟩⟩⟩⟩⟩⟩⟩
theorem lw_p64 : lw_okq (⟨"DiaryHouseModel", "takes", "(I)Z"⟩, 66) := ⟨⟨by decide +kernel, by decide +kernel⟩, List.mem_of_getElem? (i := 1178) (by decide +kernel), List.mem_of_getElem? (i := 1474) (by decide +kernel), List.mem_of_getElem? (i := 1475) (by decide +kernel)⟩
theorem lw_p65 : lw_okq (⟨"DiaryHouseModel", "condition", "(ZI)Z"⟩, 66) := ⟨⟨by decide +kernel, by decide +kernel⟩, List.mem_of_getElem? (i := 1178) (by decide +kernel), List.mem_of_getElem? (i := 1478) (by decide +kernel), List.mem_of_getElem? (i := 1479) (by decide +kernel)⟩
theorem lw_p66 : lw_okq (⟨"DiaryHouseModel", "part", "(ZI)Z"⟩, 66) := ⟨⟨by decide +kernel, by decide +kernel⟩, List.mem_of_getElem? (i := 1178) (by decide +kernel), List.mem_of_getElem? (i := 1482) (by decide +kernel), List.mem_of_getElem? (i := 1483) (by decide +kernel)⟩
theorem lw_p67 : lw_okq (⟨"DiaryHouseModel", "compares", "(ZI)Z"⟩, 66) := ⟨⟨by decide +kernel, by decide +kernel⟩, List.mem_of_getElem? (i := 1178) (by decide +kernel), List.mem_of_getElem? (i := 1486) (by decide +kernel), List.mem_of_getElem? (i := 1487) (by decide +kernel)⟩
theorem lw_p68 : lw_okq (⟨"DiaryHouseModel", "sum", "()I"⟩, 66) := ⟨⟨by decide +kernel, by decide +kernel⟩, List.mem_of_getElem? (i := 1178) (by decide +kernel), List.mem_of_getElem? (i := 1490) (by decide +kernel), List.mem_of_getElem? (i := 1491) (by decide +kernel)⟩
theorem lw_p69 : lw_okq (⟨"DiaryHouseModel", "term", "()I"⟩, 66) := ⟨⟨by decide +kernel, by decide +kernel⟩, List.mem_of_getElem? (i := 1178) (by decide +kernel), List.mem_of_getElem? (i := 1494) (by decide +kernel), List.mem_of_getElem? (i := 1495) (by decide +kernel)⟩
theorem lw_p70 : lw_okq (⟨"DiaryHouseModel", "atom", "()I"⟩, 66) := ⟨⟨by decide +kernel, by decide +kernel⟩, List.mem_of_getElem? (i := 1178) (by decide +kernel), List.mem_of_getElem? (i := 1498) (by decide +kernel), List.mem_of_getElem? (i := 1499) (by decide +kernel)⟩
theorem lw_p71 : lw_okq (⟨"DiaryHouseModel", "goesIn", "()Z"⟩, 66) := ⟨⟨by decide +kernel, by decide +kernel⟩, List.mem_of_getElem? (i := 1178) (by decide +kernel), List.mem_of_getElem? (i := 1503) (by decide +kernel), List.mem_of_getElem? (i := 1504) (by decide +kernel)⟩
theorem lw_p72 : lw_okq (⟨"DiaryHouseModel", "isDigit", "()Z"⟩, 66) := ⟨⟨by decide +kernel, by decide +kernel⟩, List.mem_of_getElem? (i := 1178) (by decide +kernel), List.mem_of_getElem? (i := 1507) (by decide +kernel), List.mem_of_getElem? (i := 1508) (by decide +kernel)⟩
theorem lw_p73 : lw_okq (⟨"DiaryHouseModel", "unit", "()Z"⟩, 66) := ⟨⟨by decide +kernel, by decide +kernel⟩, List.mem_of_getElem? (i := 1178) (by decide +kernel), List.mem_of_getElem? (i := 1521) (by decide +kernel), List.mem_of_getElem? (i := 1522) (by decide +kernel)⟩
theorem lw_p74 : lw_okq (⟨"DiaryHouseModel", "ruleOn", "(II)I"⟩, 66) := ⟨⟨by decide +kernel, by decide +kernel⟩, List.mem_of_getElem? (i := 1178) (by decide +kernel), List.mem_of_getElem? (i := 1533) (by decide +kernel), List.mem_of_getElem? (i := 1534) (by decide +kernel)⟩
theorem lw_p75 : lw_okq (⟨"DiaryHouseModel", "noLetters", "()V"⟩, 66) := ⟨⟨by decide +kernel, by decide +kernel⟩, List.mem_of_getElem? (i := 1178) (by decide +kernel), List.mem_of_getElem? (i := 1541) (by decide +kernel), List.mem_of_getElem? (i := 1542) (by decide +kernel)⟩
theorem lw_p76 : lw_okq (⟨"DiaryHouseModel", "letPerson", "(I)V"⟩, 66) := ⟨⟨by decide +kernel, by decide +kernel⟩, List.mem_of_getElem? (i := 1178) (by decide +kernel), List.mem_of_getElem? (i := 1545) (by decide +kernel), List.mem_of_getElem? (i := 1546) (by decide +kernel)⟩
theorem lw_p77 : lw_okq (⟨"DiaryHouseModel", "worth", "(III)I"⟩, 66) := ⟨⟨by decide +kernel, by decide +kernel⟩, List.mem_of_getElem? (i := 1178) (by decide +kernel), List.mem_of_getElem? (i := 1549) (by decide +kernel), List.mem_of_getElem? (i := 1550) (by decide +kernel)⟩
theorem lw_p78 : lw_okq (⟨"DiaryHouseModel", "isLineBy", "(II)Z"⟩, 66) := ⟨⟨by decide +kernel, by decide +kernel⟩, List.mem_of_getElem? (i := 1178) (by decide +kernel), List.mem_of_getElem? (i := 1557) (by decide +kernel), List.mem_of_getElem? (i := 1558) (by decide +kernel)⟩
theorem lw_p79 : lw_okq (⟨"DiaryHouseModel", "mayShow", "(IIII)Z"⟩, 66) := ⟨⟨by decide +kernel, by decide +kernel⟩, List.mem_of_getElem? (i := 1178) (by decide +kernel), List.mem_of_getElem? (i := 1561) (by decide +kernel), List.mem_of_getElem? (i := 1562) (by decide +kernel)⟩
def lw_privs_5 : List (MethodName × Nat) := [(⟨"DiaryHouseModel", "takes", "(I)Z"⟩, 66), (⟨"DiaryHouseModel", "condition", "(ZI)Z"⟩, 66), (⟨"DiaryHouseModel", "part", "(ZI)Z"⟩, 66), (⟨"DiaryHouseModel", "compares", "(ZI)Z"⟩, 66), (⟨"DiaryHouseModel", "sum", "()I"⟩, 66), (⟨"DiaryHouseModel", "term", "()I"⟩, 66), (⟨"DiaryHouseModel", "atom", "()I"⟩, 66), (⟨"DiaryHouseModel", "goesIn", "()Z"⟩, 66), (⟨"DiaryHouseModel", "isDigit", "()Z"⟩, 66), (⟨"DiaryHouseModel", "unit", "()Z"⟩, 66), (⟨"DiaryHouseModel", "ruleOn", "(II)I"⟩, 66), (⟨"DiaryHouseModel", "noLetters", "()V"⟩, 66), (⟨"DiaryHouseModel", "letPerson", "(I)V"⟩, 66), (⟨"DiaryHouseModel", "worth", "(III)I"⟩, 66), (⟨"DiaryHouseModel", "isLineBy", "(II)Z"⟩, 66), (⟨"DiaryHouseModel", "mayShow", "(IIII)Z"⟩, 66)]
theorem lw_r5 : ∀ q ∈ lw_privs_5, lw_okq q := List.forall_mem_cons.mpr ⟨lw_p64, List.forall_mem_cons.mpr ⟨lw_p65, List.forall_mem_cons.mpr ⟨lw_p66, List.forall_mem_cons.mpr ⟨lw_p67, List.forall_mem_cons.mpr ⟨lw_p68, List.forall_mem_cons.mpr ⟨lw_p69, List.forall_mem_cons.mpr ⟨lw_p70, List.forall_mem_cons.mpr ⟨lw_p71, List.forall_mem_cons.mpr ⟨lw_p72, List.forall_mem_cons.mpr ⟨lw_p73, List.forall_mem_cons.mpr ⟨lw_p74, List.forall_mem_cons.mpr ⟨lw_p75, List.forall_mem_cons.mpr ⟨lw_p76, List.forall_mem_cons.mpr ⟨lw_p77, List.forall_mem_cons.mpr ⟨lw_p78, List.forall_mem_cons.mpr ⟨lw_p79, fun _ h => absurd h List.not_mem_nil⟩⟩⟩⟩⟩⟩⟩⟩⟩⟩⟩⟩⟩⟩⟩⟩
theorem lw_p80 : lw_okq (⟨"DiaryHouseModel", "digests", "(IIII)Z"⟩, 66) := ⟨⟨by decide +kernel, by decide +kernel⟩, List.mem_of_getElem? (i := 1178) (by decide +kernel), List.mem_of_getElem? (i := 1569) (by decide +kernel), List.mem_of_getElem? (i := 1570) (by decide +kernel)⟩
theorem lw_p81 : lw_okq (⟨"DiaryHouseModel", "wordOf", "(III)I"⟩, 66) := ⟨⟨by decide +kernel, by decide +kernel⟩, List.mem_of_getElem? (i := 1178) (by decide +kernel), List.mem_of_getElem? (i := 1592) (by decide +kernel), List.mem_of_getElem? (i := 1593) (by decide +kernel)⟩
theorem lw_p82 : lw_okq (⟨"DiaryHouseModel", "markOf", "(III)I"⟩, 66) := ⟨⟨by decide +kernel, by decide +kernel⟩, List.mem_of_getElem? (i := 1178) (by decide +kernel), List.mem_of_getElem? (i := 1611) (by decide +kernel), List.mem_of_getElem? (i := 1612) (by decide +kernel)⟩
theorem lw_p83 : lw_okq (⟨"DiaryHouseModel", "people", "()I"⟩, 66) := ⟨⟨by decide +kernel, by decide +kernel⟩, List.mem_of_getElem? (i := 1178) (by decide +kernel), List.mem_of_getElem? (i := 1636) (by decide +kernel), List.mem_of_getElem? (i := 1637) (by decide +kernel)⟩
theorem lw_p84 : lw_okq (⟨"DiaryHouseModel", "stratum", "(I)I"⟩, 66) := ⟨⟨by decide +kernel, by decide +kernel⟩, List.mem_of_getElem? (i := 1178) (by decide +kernel), List.mem_of_getElem? (i := 1640) (by decide +kernel), List.mem_of_getElem? (i := 1641) (by decide +kernel)⟩
theorem lw_p85 : lw_okq (⟨"DiaryHouseModel", "apart", "(II)J"⟩, 66) := ⟨⟨by decide +kernel, by decide +kernel⟩, List.mem_of_getElem? (i := 1178) (by decide +kernel), List.mem_of_getElem? (i := 1653) (by decide +kernel), List.mem_of_getElem? (i := 1654) (by decide +kernel)⟩
theorem lw_p86 : lw_okq (⟨"DiaryHouseModel", "lastOf", "(II)I"⟩, 66) := ⟨⟨by decide +kernel, by decide +kernel⟩, List.mem_of_getElem? (i := 1178) (by decide +kernel), List.mem_of_getElem? (i := 1662) (by decide +kernel), List.mem_of_getElem? (i := 1663) (by decide +kernel)⟩
theorem lw_p87 : lw_okq (⟨"DiaryHouseModel", "isStopped", "(II)Z"⟩, 66) := ⟨⟨by decide +kernel, by decide +kernel⟩, List.mem_of_getElem? (i := 1178) (by decide +kernel), List.mem_of_getElem? (i := 1670) (by decide +kernel), List.mem_of_getElem? (i := 1671) (by decide +kernel)⟩
theorem lw_p88 : lw_okq (⟨"DiaryHouseModel", "tryTable", "(II)V"⟩, 66) := ⟨⟨by decide +kernel, by decide +kernel⟩, List.mem_of_getElem? (i := 1178) (by decide +kernel), List.mem_of_getElem? (i := 1686) (by decide +kernel), List.mem_of_getElem? (i := 1687) (by decide +kernel)⟩
theorem lw_p89 : lw_okq (⟨"DiaryHouseModel", "maySee", "(II)Z"⟩, 66) := ⟨⟨by decide +kernel, by decide +kernel⟩, List.mem_of_getElem? (i := 1178) (by decide +kernel), List.mem_of_getElem? (i := 1690) (by decide +kernel), List.mem_of_getElem? (i := 1691) (by decide +kernel)⟩
theorem lw_p90 : lw_okq (⟨"DiaryHouseModel", "alikeOf", "(II)I"⟩, 66) := ⟨⟨by decide +kernel, by decide +kernel⟩, List.mem_of_getElem? (i := 1178) (by decide +kernel), List.mem_of_getElem? (i := 1698) (by decide +kernel), List.mem_of_getElem? (i := 1699) (by decide +kernel)⟩
theorem lw_p91 : lw_okq (⟨"DiaryHouseModel", "priceOf", "(I)I"⟩, 66) := ⟨⟨by decide +kernel, by decide +kernel⟩, List.mem_of_getElem? (i := 1178) (by decide +kernel), List.mem_of_getElem? (i := 1715) (by decide +kernel), List.mem_of_getElem? (i := 1716) (by decide +kernel)⟩
theorem lw_p92 : lw_okq (⟨"DiaryHouseModel", "sortsOf", "(I)I"⟩, 66) := ⟨⟨by decide +kernel, by decide +kernel⟩, List.mem_of_getElem? (i := 1178) (by decide +kernel), List.mem_of_getElem? (i := 1719) (by decide +kernel), List.mem_of_getElem? (i := 1720) (by decide +kernel)⟩
theorem lw_p93 : lw_okq (⟨"DiaryHouseModel", "draws", "(IJ)Z"⟩, 66) := ⟨⟨by decide +kernel, by decide +kernel⟩, List.mem_of_getElem? (i := 1178) (by decide +kernel), List.mem_of_getElem? (i := 1731) (by decide +kernel), List.mem_of_getElem? (i := 1732) (by decide +kernel)⟩
def lw_privs_6 : List (MethodName × Nat) := [(⟨"DiaryHouseModel", "digests", "(IIII)Z"⟩, 66), (⟨"DiaryHouseModel", "wordOf", "(III)I"⟩, 66), (⟨"DiaryHouseModel", "markOf", "(III)I"⟩, 66), (⟨"DiaryHouseModel", "people", "()I"⟩, 66), (⟨"DiaryHouseModel", "stratum", "(I)I"⟩, 66), (⟨"DiaryHouseModel", "apart", "(II)J"⟩, 66), (⟨"DiaryHouseModel", "lastOf", "(II)I"⟩, 66), (⟨"DiaryHouseModel", "isStopped", "(II)Z"⟩, 66), (⟨"DiaryHouseModel", "tryTable", "(II)V"⟩, 66), (⟨"DiaryHouseModel", "maySee", "(II)Z"⟩, 66), (⟨"DiaryHouseModel", "alikeOf", "(II)I"⟩, 66), (⟨"DiaryHouseModel", "priceOf", "(I)I"⟩, 66), (⟨"DiaryHouseModel", "sortsOf", "(I)I"⟩, 66), (⟨"DiaryHouseModel", "draws", "(IJ)Z"⟩, 66)]
theorem lw_r6 : ∀ q ∈ lw_privs_6, lw_okq q := List.forall_mem_cons.mpr ⟨lw_p80, List.forall_mem_cons.mpr ⟨lw_p81, List.forall_mem_cons.mpr ⟨lw_p82, List.forall_mem_cons.mpr ⟨lw_p83, List.forall_mem_cons.mpr ⟨lw_p84, List.forall_mem_cons.mpr ⟨lw_p85, List.forall_mem_cons.mpr ⟨lw_p86, List.forall_mem_cons.mpr ⟨lw_p87, List.forall_mem_cons.mpr ⟨lw_p88, List.forall_mem_cons.mpr ⟨lw_p89, List.forall_mem_cons.mpr ⟨lw_p90, List.forall_mem_cons.mpr ⟨lw_p91, List.forall_mem_cons.mpr ⟨lw_p92, List.forall_mem_cons.mpr ⟨lw_p93, fun _ h => absurd h List.not_mem_nil⟩⟩⟩⟩⟩⟩⟩⟩⟩⟩⟩⟩⟩⟩
def lw_privs : List (MethodName × Nat) := lw_privs_1 ++ (lw_privs_2 ++ (lw_privs_3 ++ (lw_privs_4 ++ (lw_privs_5 ++ (lw_privs_6)))))
def lw_tbl : List Cond := k2_sels lw_privs ++ tables_1
theorem lw_privs_ok : ∀ q ∈ lw_privs, lw_okq q := by
  show ∀ q ∈ lw_privs_1 ++ (lw_privs_2 ++ (lw_privs_3 ++ (lw_privs_4 ++ (lw_privs_5 ++ (lw_privs_6))))), lw_okq q
  exact List.forall_mem_append.mpr ⟨lw_r1, List.forall_mem_append.mpr ⟨lw_r2, List.forall_mem_append.mpr ⟨lw_r3, List.forall_mem_append.mpr ⟨lw_r4, List.forall_mem_append.mpr ⟨lw_r5, lw_r6⟩⟩⟩⟩⟩
end
section
def RX0 : String := "DiaryHouse$Happening"
def TX0 : u_T := fun k => match k with
  | 0 => ("DiaryHouse$Happening", "place", "I", true)
  | 1 => ("DiaryHouse$Happening", "day", "I", true)
  | 2 => ("DiaryHouse$Happening", "sort", "I", true)
  | 3 => ("DiaryHouse$Happening", "is", "Z", true)
  | _ => ("DiaryHouse$Happening", "told", "I", true)
def tyX0 : Nat → FieldType := fun k => match k with
  | 0 => .int
  | 1 => .int
  | 2 => .int
  | 3 => .boolean
  | _ => .int
abbrev wsX00 : List Cond := u_ws RX0 TX0 5
theorem nmX0 : ∀ a, a < 5 → ∀ b, b < 5 → a ≠ b → (TX0 a).2.1 ≠ (TX0 b).2.1 := by decide +kernel
theorem tyX0_ok : ∀ k, k < 5 → parseFieldDescriptor (TX0 k).2.2.1 = some (tyX0 k) := by decide +kernel
abbrev cX0_init : ByteArray := prog_2_method_1_code
def yX0_init : MethodName := ⟨RX0, "<init>", "(IIIZI)V"⟩
abbrev cX0_isOf : ByteArray := prog_2_method_2_code
def yX0_isOf : MethodName := ⟨RX0, "isOf", "(III)Z"⟩
def RX1 : String := "DiaryHouse$Line"
def TX1 : u_T := fun k => match k with
  | 0 => ("DiaryHouse$Line", "person", "I", true)
  | 1 => ("DiaryHouse$Line", "day", "I", true)
  | 2 => ("DiaryHouse$Line", "sort", "I", true)
  | 3 => ("DiaryHouse$Line", "mood", "I", true)
  | 4 => ("DiaryHouse$Line", "saying", "I", true)
  | 5 => ("DiaryHouse$Line", "from", "I", true)
  | _ => ("DiaryHouse$Line", "told", "I", true)
def tyX1 : Nat → FieldType := fun k => match k with
  | 0 => .int
  | 1 => .int
  | 2 => .int
  | 3 => .int
  | 4 => .int
  | 5 => .int
  | _ => .int
abbrev wsX10 : List Cond := u_ws RX1 TX1 7
theorem nmX1 : ∀ a, a < 7 → ∀ b, b < 7 → a ≠ b → (TX1 a).2.1 ≠ (TX1 b).2.1 := by decide +kernel
theorem tyX1_ok : ∀ k, k < 7 → parseFieldDescriptor (TX1 k).2.2.1 = some (tyX1 k) := by decide +kernel
abbrev cX1_init : ByteArray := prog_3_method_1_code
def yX1_init : MethodName := ⟨RX1, "<init>", "(IIIIIII)V"⟩
abbrev cX1_isFor : ByteArray := prog_3_method_2_code
def yX1_isFor : MethodName := ⟨RX1, "isFor", "(II)Z"⟩
abbrev cX1_part : ByteArray := prog_3_method_3_code
def yX1_part : MethodName := ⟨RX1, "part", "(I)I"⟩
def RX2 : String := "DiaryHouse$Mark"
def TX2 : u_T := fun k => match k with
  | 0 => ("DiaryHouse$Mark", "reader", "I", true)
  | 1 => ("DiaryHouse$Mark", "line", "I", true)
  | 2 => ("DiaryHouse$Mark", "value", "I", true)
  | _ => ("DiaryHouse$Mark", "told", "I", true)
def tyX2 : Nat → FieldType := fun k => match k with
  | 0 => .int
  | 1 => .int
  | 2 => .int
  | _ => .int
abbrev wsX20 : List Cond := u_ws RX2 TX2 4
theorem nmX2 : ∀ a, a < 4 → ∀ b, b < 4 → a ≠ b → (TX2 a).2.1 ≠ (TX2 b).2.1 := by decide +kernel
theorem tyX2_ok : ∀ k, k < 4 → parseFieldDescriptor (TX2 k).2.2.1 = some (tyX2 k) := by decide +kernel
abbrev cX2_init : ByteArray := prog_4_method_1_code
def yX2_init : MethodName := ⟨RX2, "<init>", "(IIII)V"⟩
def RX3 : String := "DiaryHouse$Numbers"
def TX3 : u_T := fun k => match k with
  | 0 => ("DiaryHouse$Numbers", "room", "[I", true)
  | _ => ("DiaryHouse$Numbers", "size", "I", false)
def tyX3 : Nat → FieldType := fun k => match k with
  | 0 => .array .int
  | _ => .int
abbrev wsX30 : List Cond := u_ws RX3 TX3 2
theorem nmX3 : ∀ a, a < 2 → ∀ b, b < 2 → a ≠ b → (TX3 a).2.1 ≠ (TX3 b).2.1 := by decide +kernel
theorem tyX3_ok : ∀ k, k < 2 → parseFieldDescriptor (TX3 k).2.2.1 = some (tyX3 k) := by decide +kernel
abbrev cX3_init : ByteArray := prog_5_method_1_code
def yX3_init : MethodName := ⟨RX3, "<init>", "()V"⟩
abbrev cX3_clear : ByteArray := prog_5_method_2_code
def yX3_clear : MethodName := ⟨RX3, "clear", "()V"⟩
abbrev cX3_push : ByteArray := prog_5_method_3_code
def yX3_push : MethodName := ⟨RX3, "push", "(I)V"⟩
abbrev cX3_pop : ByteArray := prog_5_method_4_code
def yX3_pop : MethodName := ⟨RX3, "pop", "()I"⟩
def RX4 : String := "DiaryHouse$Person"
def TX4 : u_T := fun k => match k with
  | 0 => ("DiaryHouse$Person", "place", "I", true)
  | 1 => ("DiaryHouse$Person", "age", "I", true)
  | 2 => ("DiaryHouse$Person", "work", "I", true)
  | _ => ("DiaryHouse$Person", "stratum", "I", true)
def tyX4 : Nat → FieldType := fun k => match k with
  | 0 => .int
  | 1 => .int
  | 2 => .int
  | _ => .int
abbrev wsX40 : List Cond := u_ws RX4 TX4 4
theorem nmX4 : ∀ a, a < 4 → ∀ b, b < 4 → a ≠ b → (TX4 a).2.1 ≠ (TX4 b).2.1 := by decide +kernel
theorem tyX4_ok : ∀ k, k < 4 → parseFieldDescriptor (TX4 k).2.2.1 = some (tyX4 k) := by decide +kernel
abbrev cX4_init : ByteArray := prog_6_method_1_code
def yX4_init : MethodName := ⟨RX4, "<init>", "(III)V"⟩
abbrev cX4_livesIn : ByteArray := prog_6_method_2_code
def yX4_livesIn : MethodName := ⟨RX4, "livesIn", "(II)Z"⟩
abbrev cX4_isLike : ByteArray := prog_6_method_3_code
def yX4_isLike : MethodName := ⟨RX4, "isLike", "(LDiaryHouse$Person;I)Z"⟩
def RX5 : String := "DiaryHouse$Question"
def TX5 : u_T := fun k => match k with
  | 0 => ("DiaryHouse$Question", "price", "I", true)
  | _ => ("DiaryHouse$Question", "sorts", "I", true)
def tyX5 : Nat → FieldType := fun k => match k with
  | 0 => .int
  | _ => .int
abbrev wsX50 : List Cond := u_ws RX5 TX5 2
theorem nmX5 : ∀ a, a < 2 → ∀ b, b < 2 → a ≠ b → (TX5 a).2.1 ≠ (TX5 b).2.1 := by decide +kernel
theorem tyX5_ok : ∀ k, k < 2 → parseFieldDescriptor (TX5 k).2.2.1 = some (tyX5 k) := by decide +kernel
abbrev cX5_init : ByteArray := prog_7_method_1_code
def yX5_init : MethodName := ⟨RX5, "<init>", "(II)V"⟩
def RX6 : String := "DiaryHouse$Rule"
def TX6 : u_T := fun k => match k with
  | 0 => ("DiaryHouse$Rule", "from", "I", true)
  | 1 => ("DiaryHouse$Rule", "told", "I", true)
  | _ => ("DiaryHouse$Rule", "codes", "[I", true)
def tyX6 : Nat → FieldType := fun k => match k with
  | 0 => .int
  | 1 => .int
  | _ => .array .int
abbrev wsX60 : List Cond := u_ws RX6 TX6 3
theorem nmX6 : ∀ a, a < 3 → ∀ b, b < 3 → a ≠ b → (TX6 a).2.1 ≠ (TX6 b).2.1 := by decide +kernel
theorem tyX6_ok : ∀ k, k < 3 → parseFieldDescriptor (TX6 k).2.2.1 = some (tyX6 k) := by decide +kernel
abbrev cX6_init : ByteArray := prog_8_method_1_code
def yX6_init : MethodName := ⟨RX6, "<init>", "(II[I)V"⟩
abbrev cX6_worth : ByteArray := prog_8_method_2_code
def yX6_worth : MethodName := ⟨RX6, "worth", "(C[ILDiaryHouse$Numbers;)I"⟩
abbrev cX6_work : ByteArray := prog_8_method_3_code
def yX6_work : MethodName := ⟨RX6, "work", "(I[ILDiaryHouse$Numbers;)V"⟩
abbrev cX6_joined : ByteArray := prog_8_method_4_code
def yX6_joined : MethodName := ⟨RX6, "joined", "(CII)I"⟩
def RX7 : String := "DiaryHouse$Stop"
def TX7 : u_T := fun k => match k with
  | 0 => ("DiaryHouse$Stop", "person", "I", true)
  | 1 => ("DiaryHouse$Stop", "day", "I", true)
  | _ => ("DiaryHouse$Stop", "told", "I", true)
def tyX7 : Nat → FieldType := fun k => match k with
  | 0 => .int
  | 1 => .int
  | _ => .int
abbrev wsX70 : List Cond := u_ws RX7 TX7 3
theorem nmX7 : ∀ a, a < 3 → ∀ b, b < 3 → a ≠ b → (TX7 a).2.1 ≠ (TX7 b).2.1 := by decide +kernel
theorem tyX7_ok : ∀ k, k < 3 → parseFieldDescriptor (TX7 k).2.2.1 = some (tyX7 k) := by decide +kernel
abbrev cX7_init : ByteArray := prog_9_method_1_code
def yX7_init : MethodName := ⟨RX7, "<init>", "(III)V"⟩
def RX8 : String := "DiaryHouse$Table"
def TX8 : u_T := fun k => match k with
  | 0 => ("DiaryHouse$Table", "from", "[I", true)
  | 1 => ("DiaryHouse$Table", "to", "[I", true)
  | 2 => ("DiaryHouse$Table", "watchers", "I", false)
  | 3 => ("DiaryHouse$Table", "places", "[I", true)
  | 4 => ("DiaryHouse$Table", "hours", "[I", true)
  | 5 => ("DiaryHouse$Table", "wanted", "I", false)
  | 6 => ("DiaryHouse$Table", "tried", "[I", true)
  | 7 => ("DiaryHouse$Table", "best", "[I", true)
  | _ => ("DiaryHouse$Table", "seen", "I", false)
def tyX8 : Nat → FieldType := fun k => match k with
  | 0 => .array .int
  | 1 => .array .int
  | 2 => .int
  | 3 => .array .int
  | 4 => .array .int
  | 5 => .int
  | 6 => .array .int
  | 7 => .array .int
  | _ => .int
abbrev wsX80 : List Cond := u_ws RX8 TX8 9
theorem nmX8 : ∀ a, a < 9 → ∀ b, b < 9 → a ≠ b → (TX8 a).2.1 ≠ (TX8 b).2.1 := by decide +kernel
theorem tyX8_ok : ∀ k, k < 9 → parseFieldDescriptor (TX8 k).2.2.1 = some (tyX8 k) := by decide +kernel
abbrev cX8_init : ByteArray := prog_10_method_1_code
def yX8_init : MethodName := ⟨RX8, "<init>", "()V"⟩
abbrev cX8_watchers : ByteArray := prog_10_method_2_code
def yX8_watchers : MethodName := ⟨RX8, "watchers", "()I"⟩
abbrev cX8_wanted : ByteArray := prog_10_method_3_code
def yX8_wanted : MethodName := ⟨RX8, "wanted", "()I"⟩
abbrev cX8_seen : ByteArray := prog_10_method_4_code
def yX8_seen : MethodName := ⟨RX8, "seen", "()I"⟩
abbrev cX8_watcherOf : ByteArray := prog_10_method_5_code
def yX8_watcherOf : MethodName := ⟨RX8, "watcherOf", "(I)I"⟩
abbrev cX8_addWatcher : ByteArray := prog_10_method_6_code
def yX8_addWatcher : MethodName := ⟨RX8, "addWatcher", "(II)I"⟩
abbrev cX8_addWanted : ByteArray := prog_10_method_7_code
def yX8_addWanted : MethodName := ⟨RX8, "addWanted", "(II)I"⟩
abbrev cX8_planAnew : ByteArray := prog_10_method_8_code
def yX8_planAnew : MethodName := ⟨RX8, "planAnew", "()V"⟩
abbrev cX8_tryFrom : ByteArray := prog_10_method_9_code
def yX8_tryFrom : MethodName := ⟨RX8, "tryFrom", "(LDiaryHouse$Table;II)V"⟩
abbrev cX8_canSee : ByteArray := prog_10_method_10_code
def yX8_canSee : MethodName := ⟨RX8, "canSee", "(II)Z"⟩
abbrev cX8_canBothBeSeen : ByteArray := prog_10_method_11_code
def yX8_canBothBeSeen : MethodName := ⟨RX8, "canBothBeSeen", "(II)Z"⟩
def RX9 : String := "DiaryHouse$Tape"
def TX9 : u_T := fun k => match k with
  | 0 => ("DiaryHouse$Tape", "signs", "[C", true)
  | 1 => ("DiaryHouse$Tape", "size", "I", false)
  | 2 => ("DiaryHouse$Tape", "at", "I", false)
  | 3 => ("DiaryHouse$Tape", "codes", "[I", true)
  | _ => ("DiaryHouse$Tape", "codesSize", "I", false)
def tyX9 : Nat → FieldType := fun k => match k with
  | 0 => .array .char
  | 1 => .int
  | 2 => .int
  | 3 => .array .int
  | _ => .int
abbrev wsX90 : List Cond := u_ws RX9 TX9 5
theorem nmX9 : ∀ a, a < 5 → ∀ b, b < 5 → a ≠ b → (TX9 a).2.1 ≠ (TX9 b).2.1 := by decide +kernel
theorem tyX9_ok : ∀ k, k < 5 → parseFieldDescriptor (TX9 k).2.2.1 = some (tyX9 k) := by decide +kernel
abbrev cX9_init : ByteArray := prog_11_method_1_code
def yX9_init : MethodName := ⟨RX9, "<init>", "()V"⟩
abbrev cX9_length : ByteArray := prog_11_method_2_code
def yX9_length : MethodName := ⟨RX9, "length", "()I"⟩
abbrev cX9_append : ByteArray := prog_11_method_3_code
def yX9_append : MethodName := ⟨RX9, "append", "(I)V"⟩
abbrev cX9_cut : ByteArray := prog_11_method_4_code
def yX9_cut : MethodName := ⟨RX9, "cut", "(I)V"⟩
abbrev cX9_codesRead : ByteArray := prog_11_method_5_code
def yX9_codesRead : MethodName := ⟨RX9, "codesRead", "()[I"⟩
abbrev cX9_read : ByteArray := prog_11_method_6_code
def yX9_read : MethodName := ⟨RX9, "read", "()I"⟩
abbrev cX9_readClause : ByteArray := prog_11_method_7_code
def yX9_readClause : MethodName := ⟨RX9, "readClause", "()Z"⟩
abbrev cX9_readCondition : ByteArray := prog_11_method_8_code
def yX9_readCondition : MethodName := ⟨RX9, "readCondition", "(I)Z"⟩
abbrev cX9_readMoreParts : ByteArray := prog_11_method_9_code
def yX9_readMoreParts : MethodName := ⟨RX9, "readMoreParts", "(I)Z"⟩
abbrev cX9_readPart : ByteArray := prog_11_method_10_code
def yX9_readPart : MethodName := ⟨RX9, "readPart", "(I)Z"⟩
abbrev cX9_readMoreUnits : ByteArray := prog_11_method_11_code
def yX9_readMoreUnits : MethodName := ⟨RX9, "readMoreUnits", "(I)Z"⟩
abbrev cX9_readUnit : ByteArray := prog_11_method_12_code
def yX9_readUnit : MethodName := ⟨RX9, "readUnit", "(I)Z"⟩
abbrev cX9_readComparison : ByteArray := prog_11_method_13_code
def yX9_readComparison : MethodName := ⟨RX9, "readComparison", "(I)Z"⟩
abbrev cX9_readSum : ByteArray := prog_11_method_14_code
def yX9_readSum : MethodName := ⟨RX9, "readSum", "(I)Z"⟩
abbrev cX9_readTerm : ByteArray := prog_11_method_15_code
def yX9_readTerm : MethodName := ⟨RX9, "readTerm", "(I)Z"⟩
abbrev cX9_readAtom : ByteArray := prog_11_method_16_code
def yX9_readAtom : MethodName := ⟨RX9, "readAtom", "(I)Z"⟩
abbrev cX9_readNumber : ByteArray := prog_11_method_17_code
def yX9_readNumber : MethodName := ⟨RX9, "readNumber", "()Z"⟩
abbrev cX9_sees : ByteArray := prog_11_method_18_code
def yX9_sees : MethodName := ⟨RX9, "sees", "(Ljava/lang/String;)Z"⟩
abbrev cX9_take : ByteArray := prog_11_method_19_code
def yX9_take : MethodName := ⟨RX9, "take", "(Ljava/lang/String;)Z"⟩
abbrev cX9_takeSign : ByteArray := prog_11_method_20_code
def yX9_takeSign : MethodName := ⟨RX9, "takeSign", "()C"⟩
abbrev cX9_addCode : ByteArray := prog_11_method_21_code
def yX9_addCode : MethodName := ⟨RX9, "addCode", "(I)V"⟩
def RX10 : String := "DiaryHouse$Turn"
def TX10 : u_T := fun k => match k with
  | 0 => ("DiaryHouse$Turn", "days", "[I", true)
  | 1 => ("DiaryHouse$Turn", "moods", "[I", true)
  | _ => ("DiaryHouse$Turn", "size", "I", false)
def tyX10 : Nat → FieldType := fun k => match k with
  | 0 => .array .int
  | 1 => .array .int
  | _ => .int
abbrev wsX100 : List Cond := u_ws RX10 TX10 3
theorem nmX10 : ∀ a, a < 3 → ∀ b, b < 3 → a ≠ b → (TX10 a).2.1 ≠ (TX10 b).2.1 := by decide +kernel
theorem tyX10_ok : ∀ k, k < 3 → parseFieldDescriptor (TX10 k).2.2.1 = some (tyX10 k) := by decide +kernel
abbrev cX10_init : ByteArray := prog_12_method_1_code
def yX10_init : MethodName := ⟨RX10, "<init>", "()V"⟩
abbrev cX10_clear : ByteArray := prog_12_method_2_code
def yX10_clear : MethodName := ⟨RX10, "clear", "()V"⟩
abbrev cX10_add : ByteArray := prog_12_method_3_code
def yX10_add : MethodName := ⟨RX10, "add", "(II)V"⟩
abbrev cX10_split : ByteArray := prog_12_method_4_code
def yX10_split : MethodName := ⟨RX10, "split", "()I"⟩
abbrev cX10_dayAt : ByteArray := prog_12_method_5_code
def yX10_dayAt : MethodName := ⟨RX10, "dayAt", "(I)I"⟩
abbrev cX10_chanceAt : ByteArray := prog_12_method_6_code
def yX10_chanceAt : MethodName := ⟨RX10, "chanceAt", "(I)I"⟩
abbrev cX10_sumAhead : ByteArray := prog_12_method_7_code
def yX10_sumAhead : MethodName := ⟨RX10, "sumAhead", "(I)I"⟩
abbrev cX10_distance : ByteArray := prog_12_method_8_code
def yX10_distance : MethodName := ⟨RX10, "distance", "(III)J"⟩
def RX11 : String := "DiaryHouse"
def TX11 : u_T := fun k => match k with
  | 0 => ("DiaryHouse", "now", "I", false)
  | 1 => ("DiaryHouse", "persons", "Ljava/util/ArrayList;", true)
  | 2 => ("DiaryHouse", "lines", "Ljava/util/ArrayList;", true)
  | 3 => ("DiaryHouse", "stops", "Ljava/util/ArrayList;", true)
  | 4 => ("DiaryHouse", "rules", "Ljava/util/ArrayList;", true)
  | 5 => ("DiaryHouse", "happenings", "Ljava/util/ArrayList;", true)
  | 6 => ("DiaryHouse", "marks", "Ljava/util/ArrayList;", true)
  | 7 => ("DiaryHouse", "questions", "Ljava/util/ArrayList;", true)
  | 8 => ("DiaryHouse", "tape", "LDiaryHouse$Tape;", true)
  | 9 => ("DiaryHouse", "plan", "LDiaryHouse$Table;", true)
  | 10 => ("DiaryHouse", "turning", "LDiaryHouse$Turn;", true)
  | 11 => ("DiaryHouse", "people", "[[I", true)
  | 12 => ("DiaryHouse", "markRows", "[[I", true)
  | 13 => ("DiaryHouse", "letters", "[I", true)
  | 14 => ("DiaryHouse", "numbers", "LDiaryHouse$Numbers;", true)
  | 15 => ("DiaryHouse", "picks", "[I", true)
  | _ => ("DiaryHouse", "drawn", "[I", true)
def tyX11 : Nat → FieldType := fun k => match k with
  | 0 => .int
  | 1 => .object "java/util/ArrayList"
  | 2 => .object "java/util/ArrayList"
  | 3 => .object "java/util/ArrayList"
  | 4 => .object "java/util/ArrayList"
  | 5 => .object "java/util/ArrayList"
  | 6 => .object "java/util/ArrayList"
  | 7 => .object "java/util/ArrayList"
  | 8 => .object "DiaryHouse$Tape"
  | 9 => .object "DiaryHouse$Table"
  | 10 => .object "DiaryHouse$Turn"
  | 11 => .array (.array .int)
  | 12 => .array (.array .int)
  | 13 => .array .int
  | 14 => .object "DiaryHouse$Numbers"
  | 15 => .array .int
  | _ => .array .int
abbrev wsX110 : List Cond := u_ws RX11 TX11 17
theorem nmX11 : ∀ a, a < 17 → ∀ b, b < 17 → a ≠ b → (TX11 a).2.1 ≠ (TX11 b).2.1 := by decide +kernel
theorem tyX11_ok : ∀ k, k < 17 → parseFieldDescriptor (TX11 k).2.2.1 = some (tyX11 k) := by decide +kernel
abbrev cX11_init : ByteArray := prog_1_method_1_code
def yX11_init : MethodName := ⟨RX11, "<init>", "()V"⟩
abbrev cX11_days : ByteArray := prog_1_method_2_code
def yX11_days : MethodName := ⟨RX11, "days", "(I)I"⟩
abbrev cX11_person : ByteArray := prog_1_method_3_code
def yX11_person : MethodName := ⟨RX11, "person", "(III)I"⟩
abbrev cX11_line : ByteArray := prog_1_method_4_code
def yX11_line : MethodName := ⟨RX11, "line", "(IIIIII)I"⟩
abbrev cX11_isHearing : ByteArray := prog_1_method_5_code
def yX11_isHearing : MethodName := ⟨RX11, "isHearing", "(III)Z"⟩
abbrev cX11_told : ByteArray := prog_1_method_6_code
def yX11_told : MethodName := ⟨RX11, "told", "(II)I"⟩
abbrev cX11_stop : ByteArray := prog_1_method_7_code
def yX11_stop : MethodName := ⟨RX11, "stop", "(II)Z"⟩
abbrev cX11_stopped : ByteArray := prog_1_method_8_code
def yX11_stopped : MethodName := ⟨RX11, "stopped", "(II)I"⟩
abbrev cX11_stopDayOf : ByteArray := prog_1_method_9_code
def yX11_stopDayOf : MethodName := ⟨RX11, "stopDayOf", "(II)I"⟩
abbrev cX11_hasStoppedBy : ByteArray := prog_1_method_10_code
def yX11_hasStoppedBy : MethodName := ⟨RX11, "hasStoppedBy", "(III)Z"⟩
abbrev cX11_feed : ByteArray := prog_1_method_11_code
def yX11_feed : MethodName := ⟨RX11, "feed", "(IIIII)I"⟩
abbrev cX11_bytesIn : ByteArray := prog_1_method_12_code
def yX11_bytesIn : MethodName := ⟨RX11, "bytesIn", "(I)I"⟩
abbrev cX11_end : ByteArray := prog_1_method_13_code
def yX11_end : MethodName := ⟨RX11, "end", "(I)Z"⟩
abbrev cX11_fault : ByteArray := prog_1_method_14_code
def yX11_fault : MethodName := ⟨RX11, "fault", "()I"⟩
abbrev cX11_rule : ByteArray := prog_1_method_15_code
def yX11_rule : MethodName := ⟨RX11, "rule", "(I)I"⟩
abbrev cX11_force : ByteArray := prog_1_method_16_code
def yX11_force : MethodName := ⟨RX11, "force", "(II)I"⟩
abbrev cX11_ruleInForce : ByteArray := prog_1_method_17_code
def yX11_ruleInForce : MethodName := ⟨RX11, "ruleInForce", "(II)I"⟩
abbrev cX11_worthOf : ByteArray := prog_1_method_18_code
def yX11_worthOf : MethodName := ⟨RX11, "worthOf", "(CI)I"⟩
abbrev cX11_asked : ByteArray := prog_1_method_19_code
def yX11_asked : MethodName := ⟨RX11, "asked", "(IIII)I"⟩
abbrev cX11_setPersonLetters : ByteArray := prog_1_method_20_code
def yX11_setPersonLetters : MethodName := ⟨RX11, "setPersonLetters", "(LDiaryHouse$Person;)V"⟩
abbrev cX11_shown : ByteArray := prog_1_method_21_code
def yX11_shown : MethodName := ⟨RX11, "shown", "(IIII)I"⟩
abbrev cX11_mayBeShown : ByteArray := prog_1_method_22_code
def yX11_mayBeShown : MethodName := ⟨RX11, "mayBeShown", "(LDiaryHouse$Line;III)Z"⟩
abbrev cX11_digest : ByteArray := prog_1_method_23_code
def yX11_digest : MethodName := ⟨RX11, "digest", "(IIIII)I"⟩
abbrev cX11_left : ByteArray := prog_1_method_24_code
def yX11_left : MethodName := ⟨RX11, "left", "(IIII)I"⟩
abbrev cX11_isDigest : ByteArray := prog_1_method_25_code
def yX11_isDigest : MethodName := ⟨RX11, "isDigest", "(IIII)Z"⟩
abbrev cX11_linesFor : ByteArray := prog_1_method_26_code
def yX11_linesFor : MethodName := ⟨RX11, "linesFor", "(II)I"⟩
abbrev cX11_pickDigest : ByteArray := prog_1_method_27_code
def yX11_pickDigest : MethodName := ⟨RX11, "pickDigest", "(IIII)I"⟩
abbrev cX11_digestSize : ByteArray := prog_1_method_28_code
def yX11_digestSize : MethodName := ⟨RX11, "digestSize", "(III)I"⟩
abbrev cX11_insertPick : ByteArray := prog_1_method_29_code
def yX11_insertPick : MethodName := ⟨RX11, "insertPick", "(III)I"⟩
abbrev cX11_strengthOf : ByteArray := prog_1_method_30_code
def yX11_strengthOf : MethodName := ⟨RX11, "strengthOf", "(I)I"⟩
abbrev cX11_happen : ByteArray := prog_1_method_31_code
def yX11_happen : MethodName := ⟨RX11, "happen", "(IIIZ)Z"⟩
abbrev cX11_truth : ByteArray := prog_1_method_32_code
def yX11_truth : MethodName := ⟨RX11, "truth", "(II)I"⟩
abbrev cX11_way : ByteArray := prog_1_method_33_code
def yX11_way : MethodName := ⟨RX11, "way", "(IIII)I"⟩
abbrev cX11_wayPart : ByteArray := prog_1_method_34_code
def yX11_wayPart : MethodName := ⟨RX11, "wayPart", "(IIII)I"⟩
abbrev cX11_wordOf : ByteArray := prog_1_method_35_code
def yX11_wordOf : MethodName := ⟨RX11, "wordOf", "(III)LDiaryHouse$Line;"⟩
abbrev cX11_bearers : ByteArray := prog_1_method_36_code
def yX11_bearers : MethodName := ⟨RX11, "bearers", "(II)I"⟩
abbrev cX11_mark : ByteArray := prog_1_method_37_code
def yX11_mark : MethodName := ⟨RX11, "mark", "(III)Z"⟩
abbrev cX11_marked : ByteArray := prog_1_method_38_code
def yX11_marked : MethodName := ⟨RX11, "marked", "(III)I"⟩
abbrev cX11_layMarks : ByteArray := prog_1_method_39_code
def yX11_layMarks : MethodName := ⟨RX11, "layMarks", "(I)V"⟩
abbrev cX11_agree : ByteArray := prog_1_method_40_code
def yX11_agree : MethodName := ⟨RX11, "agree", "(IIII)I"⟩
abbrev cX11_habit : ByteArray := prog_1_method_41_code
def yX11_habit : MethodName := ⟨RX11, "habit", "(II)I"⟩
abbrev cX11_held : ByteArray := prog_1_method_42_code
def yX11_held : MethodName := ⟨RX11, "held", "(II)I"⟩
abbrev cX11_readersGiving : ByteArray := prog_1_method_43_code
def yX11_readersGiving : MethodName := ⟨RX11, "readersGiving", "(II)I"⟩
abbrev cX11_land : ByteArray := prog_1_method_44_code
def yX11_land : MethodName := ⟨RX11, "land", "(III)Z"⟩
abbrev cX11_allPeople : ByteArray := prog_1_method_45_code
def yX11_allPeople : MethodName := ⟨RX11, "allPeople", "()I"⟩
abbrev cX11_span : ByteArray := prog_1_method_46_code
def yX11_span : MethodName := ⟨RX11, "span", "(IIII)I"⟩
abbrev cX11_meanMood : ByteArray := prog_1_method_47_code
def yX11_meanMood : MethodName := ⟨RX11, "meanMood", "(IIIII)I"⟩
abbrev cX11_share : ByteArray := prog_1_method_48_code
def yX11_share : MethodName := ⟨RX11, "share", "(III)I"⟩
abbrev cX11_mood : ByteArray := prog_1_method_49_code
def yX11_mood : MethodName := ⟨RX11, "mood", "(III)I"⟩
abbrev cX11_turn : ByteArray := prog_1_method_50_code
def yX11_turn : MethodName := ⟨RX11, "turn", "(IIII)I"⟩
abbrev cX11_last : ByteArray := prog_1_method_51_code
def yX11_last : MethodName := ⟨RX11, "last", "(II)I"⟩
abbrev cX11_lastOf : ByteArray := prog_1_method_52_code
def yX11_lastOf : MethodName := ⟨RX11, "lastOf", "(II)I"⟩
abbrev cX11_lean : ByteArray := prog_1_method_53_code
def yX11_lean : MethodName := ⟨RX11, "lean", "(II)I"⟩
abbrev cX11_watcher : ByteArray := prog_1_method_54_code
def yX11_watcher : MethodName := ⟨RX11, "watcher", "(II)I"⟩
abbrev cX11_want : ByteArray := prog_1_method_55_code
def yX11_want : MethodName := ⟨RX11, "want", "(II)I"⟩
abbrev cX11_table : ByteArray := prog_1_method_56_code
def yX11_table : MethodName := ⟨RX11, "table", "(I)I"⟩
abbrev cX11_alike : ByteArray := prog_1_method_57_code
def yX11_alike : MethodName := ⟨RX11, "alike", "(II)I"⟩
abbrev cX11_alikeTo : ByteArray := prog_1_method_58_code
def yX11_alikeTo : MethodName := ⟨RX11, "alikeTo", "(LDiaryHouse$Person;I)I"⟩
abbrev cX11_hide : ByteArray := prog_1_method_59_code
def yX11_hide : MethodName := ⟨RX11, "hide", "(I)I"⟩
abbrev cX11_allHaveAlike : ByteArray := prog_1_method_60_code
def yX11_allHaveAlike : MethodName := ⟨RX11, "allHaveAlike", "(II)Z"⟩
abbrev cX11_question : ByteArray := prog_1_method_61_code
def yX11_question : MethodName := ⟨RX11, "question", "(II)I"⟩
abbrev cX11_buy : ByteArray := prog_1_method_62_code
def yX11_buy : MethodName := ⟨RX11, "buy", "(I)I"⟩
abbrev cX11_hasTheFirstUnlike : ByteArray := prog_1_method_63_code
def yX11_hasTheFirstUnlike : MethodName := ⟨RX11, "hasTheFirstUnlike", "(II)Z"⟩
abbrev cX11_priceOf : ByteArray := prog_1_method_64_code
def yX11_priceOf : MethodName := ⟨RX11, "priceOf", "(I)I"⟩
abbrev cX11_sortsOf : ByteArray := prog_1_method_65_code
def yX11_sortsOf : MethodName := ⟨RX11, "sortsOf", "(I)I"⟩
abbrev cX11_judge : ByteArray := prog_1_method_66_code
def yX11_judge : MethodName := ⟨RX11, "judge", "(II)I"⟩
abbrev cX11_lot : ByteArray := prog_1_method_67_code
def yX11_lot : MethodName := ⟨RX11, "lot", "(IJI)I"⟩
abbrev cX11_draw : ByteArray := prog_1_method_68_code
def yX11_draw : MethodName := ⟨RX11, "draw", "(IJ)V"⟩
abbrev cX11_beside : ByteArray := prog_1_method_69_code
def yX11_beside : MethodName := ⟨RX11, "beside", "(IJI)I"⟩
abbrev cX11_isDrawn : ByteArray := prog_1_method_70_code
def yX11_isDrawn : MethodName := ⟨RX11, "isDrawn", "(II)Z"⟩
abbrev cX11_count : ByteArray := prog_1_method_71_code
def yX11_count : MethodName := ⟨RX11, "count", "(I)I"⟩
abbrev cX11_personsGone : ByteArray := prog_1_method_72_code
def yX11_personsGone : MethodName := ⟨RX11, "personsGone", "()I"⟩
abbrev cX11_isWithin : ByteArray := prog_1_method_73_code
def yX11_isWithin : MethodName := ⟨RX11, "isWithin", "(III)Z"⟩
abbrev cX11_isDay : ByteArray := prog_1_method_74_code
def yX11_isDay : MethodName := ⟨RX11, "isDay", "(I)Z"⟩
abbrev cX11_isKnownDay : ByteArray := prog_1_method_75_code
def yX11_isKnownDay : MethodName := ⟨RX11, "isKnownDay", "(I)Z"⟩
abbrev cX11_isPerson : ByteArray := prog_1_method_76_code
def yX11_isPerson : MethodName := ⟨RX11, "isPerson", "(I)Z"⟩
abbrev cX11_isLine : ByteArray := prog_1_method_77_code
def yX11_isLine : MethodName := ⟨RX11, "isLine", "(I)Z"⟩
abbrev cX11_isLineKnown : ByteArray := prog_1_method_78_code
def yX11_isLineKnown : MethodName := ⟨RX11, "isLineKnown", "(II)Z"⟩
abbrev cX11_isPlace : ByteArray := prog_1_method_79_code
def yX11_isPlace : MethodName := ⟨RX11, "isPlace", "(I)Z"⟩
abbrev cX11_isSort : ByteArray := prog_1_method_80_code
def yX11_isSort : MethodName := ⟨RX11, "isSort", "(I)Z"⟩
abbrev cX11_isSaying : ByteArray := prog_1_method_81_code
def yX11_isSaying : MethodName := ⟨RX11, "isSaying", "(I)Z"⟩
abbrev cX11_isRank : ByteArray := prog_1_method_82_code
def yX11_isRank : MethodName := ⟨RX11, "isRank", "(I)Z"⟩
abbrev cX11_isReader : ByteArray := prog_1_method_83_code
def yX11_isReader : MethodName := ⟨RX11, "isReader", "(I)Z"⟩
abbrev cX11_isHour : ByteArray := prog_1_method_84_code
def yX11_isHour : MethodName := ⟨RX11, "isHour", "(I)Z"⟩
abbrev cX11_isCoin : ByteArray := prog_1_method_85_code
def yX11_isCoin : MethodName := ⟨RX11, "isCoin", "(I)Z"⟩
abbrev cX11_isLotSize : ByteArray := prog_1_method_86_code
def yX11_isLotSize : MethodName := ⟨RX11, "isLotSize", "(I)Z"⟩
def RX12 : String := "DiaryHouseModel"
def TX12 : u_T := fun k => match k with
  | 0 => ("DiaryHouseModel", "thrown", "I", false)
  | 1 => ("DiaryHouseModel", "now", "I", false)
  | 2 => ("DiaryHouseModel", "place", "[I", true)
  | 3 => ("DiaryHouseModel", "age", "[I", true)
  | 4 => ("DiaryHouseModel", "work", "[I", true)
  | 5 => ("DiaryHouseModel", "stopOf", "[I", true)
  | 6 => ("DiaryHouseModel", "stopDay", "[I", true)
  | 7 => ("DiaryHouseModel", "stopTold", "[I", true)
  | 8 => ("DiaryHouseModel", "lineOf", "[I", true)
  | 9 => ("DiaryHouseModel", "lineDay", "[I", true)
  | 10 => ("DiaryHouseModel", "lineSort", "[I", true)
  | 11 => ("DiaryHouseModel", "lineMood", "[I", true)
  | 12 => ("DiaryHouseModel", "lineSaying", "[I", true)
  | 13 => ("DiaryHouseModel", "lineFrom", "[I", true)
  | 14 => ("DiaryHouseModel", "lineTold", "[I", true)
  | 15 => ("DiaryHouseModel", "persons", "I", false)
  | 16 => ("DiaryHouseModel", "lines", "I", false)
  | 17 => ("DiaryHouseModel", "stops", "I", false)
  | 18 => ("DiaryHouseModel", "tape", "[B", true)
  | 19 => ("DiaryHouseModel", "ruleText", "[B", true)
  | 20 => ("DiaryHouseModel", "ruleLong", "[I", true)
  | 21 => ("DiaryHouseModel", "ruleFrom", "[I", true)
  | 22 => ("DiaryHouseModel", "ruleTold", "[I", true)
  | 23 => ("DiaryHouseModel", "letters", "[I", true)
  | 24 => ("DiaryHouseModel", "length", "I", false)
  | 25 => ("DiaryHouseModel", "rules", "I", false)
  | 26 => ("DiaryHouseModel", "text", "[B", false)
  | 27 => ("DiaryHouseModel", "begins", "I", false)
  | 28 => ("DiaryHouseModel", "ends", "I", false)
  | 29 => ("DiaryHouseModel", "at", "I", false)
  | 30 => ("DiaryHouseModel", "fault", "I", false)
  | 31 => ("DiaryHouseModel", "deep", "I", false)
  | 32 => ("DiaryHouseModel", "label", "I", false)
  | 33 => ("DiaryHouseModel", "found", "I", false)
  | 34 => ("DiaryHouseModel", "hasFound", "Z", false)
  | 35 => ("DiaryHouseModel", "chosen", "[I", true)
  | 36 => ("DiaryHouseModel", "chosenMany", "I", false)
  | 37 => ("DiaryHouseModel", "dayMany", "I", false)
  | 38 => ("DiaryHouseModel", "happenPlace", "[I", true)
  | 39 => ("DiaryHouseModel", "happenDay", "[I", true)
  | 40 => ("DiaryHouseModel", "happenSort", "[I", true)
  | 41 => ("DiaryHouseModel", "happenTold", "[I", true)
  | 42 => ("DiaryHouseModel", "happened", "[Z", true)
  | 43 => ("DiaryHouseModel", "seen", "[Z", true)
  | 44 => ("DiaryHouseModel", "happenings", "I", false)
  | 45 => ("DiaryHouseModel", "markReader", "[I", true)
  | 46 => ("DiaryHouseModel", "markLine", "[I", true)
  | 47 => ("DiaryHouseModel", "markIs", "[I", true)
  | 48 => ("DiaryHouseModel", "markTold", "[I", true)
  | 49 => ("DiaryHouseModel", "marks", "I", false)
  | 50 => ("DiaryHouseModel", "land", "[I", true)
  | 51 => ("DiaryHouseModel", "moods", "[I", true)
  | 52 => ("DiaryHouseModel", "moodMany", "I", false)
  | 53 => ("DiaryHouseModel", "watchFrom", "[I", true)
  | 54 => ("DiaryHouseModel", "watchTo", "[I", true)
  | 55 => ("DiaryHouseModel", "wantPlace", "[I", true)
  | 56 => ("DiaryHouseModel", "wantHour", "[I", true)
  | 57 => ("DiaryHouseModel", "tried", "[I", true)
  | 58 => ("DiaryHouseModel", "bestTable", "[I", true)
  | 59 => ("DiaryHouseModel", "watchers", "I", false)
  | 60 => ("DiaryHouseModel", "wanted", "I", false)
  | 61 => ("DiaryHouseModel", "bestSeen", "I", false)
  | 62 => ("DiaryHouseModel", "price", "[I", true)
  | 63 => ("DiaryHouseModel", "tells", "[I", true)
  | 64 => ("DiaryHouseModel", "drawn", "[I", true)
  | _ => ("DiaryHouseModel", "questions", "I", false)
def tyX12 : Nat → FieldType := fun k => match k with
  | 0 => .int
  | 1 => .int
  | 2 => .array .int
  | 3 => .array .int
  | 4 => .array .int
  | 5 => .array .int
  | 6 => .array .int
  | 7 => .array .int
  | 8 => .array .int
  | 9 => .array .int
  | 10 => .array .int
  | 11 => .array .int
  | 12 => .array .int
  | 13 => .array .int
  | 14 => .array .int
  | 15 => .int
  | 16 => .int
  | 17 => .int
  | 18 => .array .byte
  | 19 => .array .byte
  | 20 => .array .int
  | 21 => .array .int
  | 22 => .array .int
  | 23 => .array .int
  | 24 => .int
  | 25 => .int
  | 26 => .array .byte
  | 27 => .int
  | 28 => .int
  | 29 => .int
  | 30 => .int
  | 31 => .int
  | 32 => .int
  | 33 => .int
  | 34 => .boolean
  | 35 => .array .int
  | 36 => .int
  | 37 => .int
  | 38 => .array .int
  | 39 => .array .int
  | 40 => .array .int
  | 41 => .array .int
  | 42 => .array .boolean
  | 43 => .array .boolean
  | 44 => .int
  | 45 => .array .int
  | 46 => .array .int
  | 47 => .array .int
  | 48 => .array .int
  | 49 => .int
  | 50 => .array .int
  | 51 => .array .int
  | 52 => .int
  | 53 => .array .int
  | 54 => .array .int
  | 55 => .array .int
  | 56 => .array .int
  | 57 => .array .int
  | 58 => .array .int
  | 59 => .int
  | 60 => .int
  | 61 => .int
  | 62 => .array .int
  | 63 => .array .int
  | 64 => .array .int
  | _ => .int
abbrev wsX120 : List Cond := u_ws RX12 TX12 66
theorem nmX12 : ∀ a, a < 66 → ∀ b, b < 66 → a ≠ b → (TX12 a).2.1 ≠ (TX12 b).2.1 := by decide +kernel
theorem tyX12_ok : ∀ k, k < 66 → parseFieldDescriptor (TX12 k).2.2.1 = some (tyX12 k) := by decide +kernel
abbrev cX12_init : ByteArray := prog_14_method_1_code
def yX12_init : MethodName := ⟨RX12, "<init>", "()V"⟩
abbrev cX12_thrown : ByteArray := prog_14_method_2_code
def yX12_thrown : MethodName := ⟨RX12, "thrown", "()I"⟩
abbrev cX12_isIn : ByteArray := prog_14_method_3_code
def yX12_isIn : MethodName := ⟨RX12, "isIn", "(III)Z"⟩
abbrev cX12_isKnown : ByteArray := prog_14_method_4_code
def yX12_isKnown : MethodName := ⟨RX12, "isKnown", "(I)Z"⟩
abbrev cX12_isDay : ByteArray := prog_14_method_5_code
def yX12_isDay : MethodName := ⟨RX12, "isDay", "(I)Z"⟩
abbrev cX12_isSort : ByteArray := prog_14_method_6_code
def yX12_isSort : MethodName := ⟨RX12, "isSort", "(I)Z"⟩
abbrev cX12_days : ByteArray := prog_14_method_7_code
def yX12_days : MethodName := ⟨RX12, "days", "(I)I"⟩
abbrev cX12_isPerson : ByteArray := prog_14_method_8_code
def yX12_isPerson : MethodName := ⟨RX12, "isPerson", "(I)Z"⟩
abbrev cX12_isLine : ByteArray := prog_14_method_9_code
def yX12_isLine : MethodName := ⟨RX12, "isLine", "(I)Z"⟩
abbrev cX12_isLineBy : ByteArray := prog_14_method_10_code
def yX12_isLineBy : MethodName := ⟨RX12, "isLineBy", "(II)Z"⟩
abbrev cX12_person : ByteArray := prog_14_method_11_code
def yX12_person : MethodName := ⟨RX12, "person", "(III)I"⟩
abbrev cX12_stratum : ByteArray := prog_14_method_12_code
def yX12_stratum : MethodName := ⟨RX12, "stratum", "(I)I"⟩
abbrev cX12_stopsFrom : ByteArray := prog_14_method_13_code
def yX12_stopsFrom : MethodName := ⟨RX12, "stopsFrom", "(II)I"⟩
abbrev cX12_line : ByteArray := prog_14_method_14_code
def yX12_line : MethodName := ⟨RX12, "line", "(IIIIII)I"⟩
abbrev cX12_told : ByteArray := prog_14_method_15_code
def yX12_told : MethodName := ⟨RX12, "told", "(II)I"⟩
abbrev cX12_stop : ByteArray := prog_14_method_16_code
def yX12_stop : MethodName := ⟨RX12, "stop", "(II)Z"⟩
abbrev cX12_stopped : ByteArray := prog_14_method_17_code
def yX12_stopped : MethodName := ⟨RX12, "stopped", "(II)I"⟩
abbrev cX12_bytesIn : ByteArray := prog_14_method_18_code
def yX12_bytesIn : MethodName := ⟨RX12, "bytesIn", "(I)I"⟩
abbrev cX12_put : ByteArray := prog_14_method_19_code
def yX12_put : MethodName := ⟨RX12, "put", "(I)V"⟩
abbrev cX12_feed : ByteArray := prog_14_method_20_code
def yX12_feed : MethodName := ⟨RX12, "feed", "(IIIII)I"⟩
abbrev cX12_end : ByteArray := prog_14_method_21_code
def yX12_end : MethodName := ⟨RX12, "end", "(I)Z"⟩
abbrev cX12_look : ByteArray := prog_14_method_22_code
def yX12_look : MethodName := ⟨RX12, "look", "()I"⟩
abbrev cX12_fails : ByteArray := prog_14_method_23_code
def yX12_fails : MethodName := ⟨RX12, "fails", "()Z"⟩
abbrev cX12_goesIn : ByteArray := prog_14_method_24_code
def yX12_goesIn : MethodName := ⟨RX12, "goesIn", "()Z"⟩
abbrev cX12_takes : ByteArray := prog_14_method_25_code
def yX12_takes : MethodName := ⟨RX12, "takes", "(I)Z"⟩
abbrev cX12_isDigit : ByteArray := prog_14_method_26_code
def yX12_isDigit : MethodName := ⟨RX12, "isDigit", "()Z"⟩
abbrev cX12_bound : ByteArray := prog_14_method_27_code
def yX12_bound : MethodName := ⟨RX12, "bound", "(J)I"⟩
abbrev cX12_atom : ByteArray := prog_14_method_28_code
def yX12_atom : MethodName := ⟨RX12, "atom", "()I"⟩
abbrev cX12_term : ByteArray := prog_14_method_29_code
def yX12_term : MethodName := ⟨RX12, "term", "()I"⟩
abbrev cX12_sum : ByteArray := prog_14_method_30_code
def yX12_sum : MethodName := ⟨RX12, "sum", "()I"⟩
abbrev cX12_isSign : ByteArray := prog_14_method_31_code
def yX12_isSign : MethodName := ⟨RX12, "isSign", "(I)Z"⟩
abbrev cX12_compares : ByteArray := prog_14_method_32_code
def yX12_compares : MethodName := ⟨RX12, "compares", "(ZI)Z"⟩
abbrev cX12_unit : ByteArray := prog_14_method_33_code
def yX12_unit : MethodName := ⟨RX12, "unit", "()Z"⟩
abbrev cX12_part : ByteArray := prog_14_method_34_code
def yX12_part : MethodName := ⟨RX12, "part", "(ZI)Z"⟩
abbrev cX12_condition : ByteArray := prog_14_method_35_code
def yX12_condition : MethodName := ⟨RX12, "condition", "(ZI)Z"⟩
abbrev cX12_clause : ByteArray := prog_14_method_36_code
def yX12_clause : MethodName := ⟨RX12, "clause", "()V"⟩
abbrev cX12_goThrough : ByteArray := prog_14_method_37_code
def yX12_goThrough : MethodName := ⟨RX12, "goThrough", "([BIII)V"⟩
abbrev cX12_fault : ByteArray := prog_14_method_38_code
def yX12_fault : MethodName := ⟨RX12, "fault", "()I"⟩
abbrev cX12_rule : ByteArray := prog_14_method_39_code
def yX12_rule : MethodName := ⟨RX12, "rule", "(I)I"⟩
abbrev cX12_ruleOn : ByteArray := prog_14_method_40_code
def yX12_ruleOn : MethodName := ⟨RX12, "ruleOn", "(II)I"⟩
abbrev cX12_force : ByteArray := prog_14_method_41_code
def yX12_force : MethodName := ⟨RX12, "force", "(II)I"⟩
abbrev cX12_worth : ByteArray := prog_14_method_42_code
def yX12_worth : MethodName := ⟨RX12, "worth", "(III)I"⟩
abbrev cX12_noLetters : ByteArray := prog_14_method_43_code
def yX12_noLetters : MethodName := ⟨RX12, "noLetters", "()V"⟩
abbrev cX12_letPerson : ByteArray := prog_14_method_44_code
def yX12_letPerson : MethodName := ⟨RX12, "letPerson", "(I)V"⟩
abbrev cX12_asked : ByteArray := prog_14_method_45_code
def yX12_asked : MethodName := ⟨RX12, "asked", "(IIII)I"⟩
abbrev cX12_mayShow : ByteArray := prog_14_method_46_code
def yX12_mayShow : MethodName := ⟨RX12, "mayShow", "(IIII)Z"⟩
abbrev cX12_shown : ByteArray := prog_14_method_47_code
def yX12_shown : MethodName := ⟨RX12, "shown", "(IIII)I"⟩
abbrev cX12_digests : ByteArray := prog_14_method_48_code
def yX12_digests : MethodName := ⟨RX12, "digests", "(IIII)Z"⟩
abbrev cX12_digest : ByteArray := prog_14_method_49_code
def yX12_digest : MethodName := ⟨RX12, "digest", "(IIIII)I"⟩
abbrev cX12_left : ByteArray := prog_14_method_50_code
def yX12_left : MethodName := ⟨RX12, "left", "(IIII)I"⟩
abbrev cX12_happen : ByteArray := prog_14_method_51_code
def yX12_happen : MethodName := ⟨RX12, "happen", "(IIIZ)Z"⟩
abbrev cX12_truth : ByteArray := prog_14_method_52_code
def yX12_truth : MethodName := ⟨RX12, "truth", "(II)I"⟩
abbrev cX12_wordOf : ByteArray := prog_14_method_53_code
def yX12_wordOf : MethodName := ⟨RX12, "wordOf", "(III)I"⟩
abbrev cX12_way : ByteArray := prog_14_method_54_code
def yX12_way : MethodName := ⟨RX12, "way", "(IIII)I"⟩
abbrev cX12_bearers : ByteArray := prog_14_method_55_code
def yX12_bearers : MethodName := ⟨RX12, "bearers", "(II)I"⟩
abbrev cX12_isReader : ByteArray := prog_14_method_56_code
def yX12_isReader : MethodName := ⟨RX12, "isReader", "(I)Z"⟩
abbrev cX12_mark : ByteArray := prog_14_method_57_code
def yX12_mark : MethodName := ⟨RX12, "mark", "(III)Z"⟩
abbrev cX12_markOf : ByteArray := prog_14_method_58_code
def yX12_markOf : MethodName := ⟨RX12, "markOf", "(III)I"⟩
abbrev cX12_marked : ByteArray := prog_14_method_59_code
def yX12_marked : MethodName := ⟨RX12, "marked", "(III)I"⟩
abbrev cX12_agree : ByteArray := prog_14_method_60_code
def yX12_agree : MethodName := ⟨RX12, "agree", "(IIII)I"⟩
abbrev cX12_habit : ByteArray := prog_14_method_61_code
def yX12_habit : MethodName := ⟨RX12, "habit", "(II)I"⟩
abbrev cX12_held : ByteArray := prog_14_method_62_code
def yX12_held : MethodName := ⟨RX12, "held", "(II)I"⟩
abbrev cX12_land : ByteArray := prog_14_method_63_code
def yX12_land : MethodName := ⟨RX12, "land", "(III)Z"⟩
abbrev cX12_people : ByteArray := prog_14_method_64_code
def yX12_people : MethodName := ⟨RX12, "people", "()I"⟩
abbrev cX12_span : ByteArray := prog_14_method_65_code
def yX12_span : MethodName := ⟨RX12, "span", "(IIII)I"⟩
abbrev cX12_mood : ByteArray := prog_14_method_66_code
def yX12_mood : MethodName := ⟨RX12, "mood", "(III)I"⟩
abbrev cX12_apart : ByteArray := prog_14_method_67_code
def yX12_apart : MethodName := ⟨RX12, "apart", "(II)J"⟩
abbrev cX12_turn : ByteArray := prog_14_method_68_code
def yX12_turn : MethodName := ⟨RX12, "turn", "(IIII)I"⟩
abbrev cX12_lastOf : ByteArray := prog_14_method_69_code
def yX12_lastOf : MethodName := ⟨RX12, "lastOf", "(II)I"⟩
abbrev cX12_last : ByteArray := prog_14_method_70_code
def yX12_last : MethodName := ⟨RX12, "last", "(II)I"⟩
abbrev cX12_isStopped : ByteArray := prog_14_method_71_code
def yX12_isStopped : MethodName := ⟨RX12, "isStopped", "(II)Z"⟩
abbrev cX12_lean : ByteArray := prog_14_method_72_code
def yX12_lean : MethodName := ⟨RX12, "lean", "(II)I"⟩
abbrev cX12_watcher : ByteArray := prog_14_method_73_code
def yX12_watcher : MethodName := ⟨RX12, "watcher", "(II)I"⟩
abbrev cX12_want : ByteArray := prog_14_method_74_code
def yX12_want : MethodName := ⟨RX12, "want", "(II)I"⟩
abbrev cX12_maySee : ByteArray := prog_14_method_75_code
def yX12_maySee : MethodName := ⟨RX12, "maySee", "(II)Z"⟩
abbrev cX12_tryTable : ByteArray := prog_14_method_76_code
def yX12_tryTable : MethodName := ⟨RX12, "tryTable", "(II)V"⟩
abbrev cX12_table : ByteArray := prog_14_method_77_code
def yX12_table : MethodName := ⟨RX12, "table", "(I)I"⟩
abbrev cX12_alikeOf : ByteArray := prog_14_method_78_code
def yX12_alikeOf : MethodName := ⟨RX12, "alikeOf", "(II)I"⟩
abbrev cX12_alike : ByteArray := prog_14_method_79_code
def yX12_alike : MethodName := ⟨RX12, "alike", "(II)I"⟩
abbrev cX12_hide : ByteArray := prog_14_method_80_code
def yX12_hide : MethodName := ⟨RX12, "hide", "(I)I"⟩
abbrev cX12_question : ByteArray := prog_14_method_81_code
def yX12_question : MethodName := ⟨RX12, "question", "(II)I"⟩
abbrev cX12_priceOf : ByteArray := prog_14_method_82_code
def yX12_priceOf : MethodName := ⟨RX12, "priceOf", "(I)I"⟩
abbrev cX12_sortsOf : ByteArray := prog_14_method_83_code
def yX12_sortsOf : MethodName := ⟨RX12, "sortsOf", "(I)I"⟩
abbrev cX12_buy : ByteArray := prog_14_method_84_code
def yX12_buy : MethodName := ⟨RX12, "buy", "(I)I"⟩
abbrev cX12_judge : ByteArray := prog_14_method_85_code
def yX12_judge : MethodName := ⟨RX12, "judge", "(II)I"⟩
abbrev cX12_draws : ByteArray := prog_14_method_86_code
def yX12_draws : MethodName := ⟨RX12, "draws", "(IJ)Z"⟩
abbrev cX12_lot : ByteArray := prog_14_method_87_code
def yX12_lot : MethodName := ⟨RX12, "lot", "(IJI)I"⟩
abbrev cX12_beside : ByteArray := prog_14_method_88_code
def yX12_beside : MethodName := ⟨RX12, "beside", "(IJI)I"⟩
abbrev cX12_count : ByteArray := prog_14_method_89_code
def yX12_count : MethodName := ⟨RX12, "count", "(I)I"⟩
def RJx145de : String := "java/io/Serializable"
def TJx145de : u_T := fun k => match k with
  | _ => ("", "", "", false)
def tyJx145de : Nat → FieldType := fun k => match k with
  | _ => .int
abbrev wsJx145de0 : List Cond := u_ws RJx145de TJx145de 0
theorem nmJx145de : ∀ a, a < 0 → ∀ b, b < 0 → a ≠ b → (TJx145de a).2.1 ≠ (TJx145de b).2.1 := by decide +kernel
theorem tyJx145de_ok : ∀ k, k < 0 → parseFieldDescriptor (TJx145de k).2.2.1 = some (tyJx145de k) := by decide +kernel
def RJx9f9b0 : String := "java/lang/CharSequence"
def TJx9f9b0 : u_T := fun k => match k with
  | _ => ("", "", "", false)
def tyJx9f9b0 : Nat → FieldType := fun k => match k with
  | _ => .int
abbrev wsJx9f9b00 : List Cond := u_ws RJx9f9b0 TJx9f9b0 0
theorem nmJx9f9b0 : ∀ a, a < 0 → ∀ b, b < 0 → a ≠ b → (TJx9f9b0 a).2.1 ≠ (TJx9f9b0 b).2.1 := by decide +kernel
theorem tyJx9f9b0_ok : ∀ k, k < 0 → parseFieldDescriptor (TJx9f9b0 k).2.2.1 = some (tyJx9f9b0 k) := by decide +kernel
def RJ11 : String := "java/lang/Character"
def TJ11 : u_T := fun k => match k with
  | _ => ("", "", "", false)
def tyJ11 : Nat → FieldType := fun k => match k with
  | _ => .int
abbrev wsJ110 : List Cond := u_ws RJ11 TJ11 0
theorem nmJ11 : ∀ a, a < 0 → ∀ b, b < 0 → a ≠ b → (TJ11 a).2.1 ≠ (TJ11 b).2.1 := by decide +kernel
theorem tyJ11_ok : ∀ k, k < 0 → parseFieldDescriptor (TJ11 k).2.2.1 = some (tyJ11 k) := by decide +kernel
abbrev cJ11_isValidCodePoint_9a6ad : ByteArray := prog_17_method_11_code
def yJ11_isValidCodePoint_9a6ad : MethodName := ⟨RJ11, "isValidCodePoint", "(I)Z"⟩
abbrev cJ11_highSurrogate_5068e : ByteArray := prog_17_method_28_code
def yJ11_highSurrogate_5068e : MethodName := ⟨RJ11, "highSurrogate", "(I)C"⟩
abbrev cJ11_lowSurrogate_5068e : ByteArray := prog_17_method_29_code
def yJ11_lowSurrogate_5068e : MethodName := ⟨RJ11, "lowSurrogate", "(I)C"⟩
def RJx8e188 : String := "java/lang/Cloneable"
def TJx8e188 : u_T := fun k => match k with
  | _ => ("", "", "", false)
def tyJx8e188 : Nat → FieldType := fun k => match k with
  | _ => .int
abbrev wsJx8e1880 : List Cond := u_ws RJx8e188 TJx8e188 0
theorem nmJx8e188 : ∀ a, a < 0 → ∀ b, b < 0 → a ≠ b → (TJx8e188 a).2.1 ≠ (TJx8e188 b).2.1 := by decide +kernel
theorem tyJx8e188_ok : ∀ k, k < 0 → parseFieldDescriptor (TJx8e188 k).2.2.1 = some (tyJx8e188 k) := by decide +kernel
def RJxb160c : String := "java/lang/Comparable"
def TJxb160c : u_T := fun k => match k with
  | _ => ("", "", "", false)
def tyJxb160c : Nat → FieldType := fun k => match k with
  | _ => .int
abbrev wsJxb160c0 : List Cond := u_ws RJxb160c TJxb160c 0
theorem nmJxb160c : ∀ a, a < 0 → ∀ b, b < 0 → a ≠ b → (TJxb160c a).2.1 ≠ (TJxb160c b).2.1 := by decide +kernel
theorem tyJxb160c_ok : ∀ k, k < 0 → parseFieldDescriptor (TJxb160c k).2.2.1 = some (tyJxb160c k) := by decide +kernel
def RJ6 : String := "java/lang/Integer"
def TJ6 : u_T := fun k => match k with
  | _ => ("", "", "", false)
def tyJ6 : Nat → FieldType := fun k => match k with
  | _ => .int
abbrev wsJ60 : List Cond := u_ws RJ6 TJ6 0
theorem nmJ6 : ∀ a, a < 0 → ∀ b, b < 0 → a ≠ b → (TJ6 a).2.1 ≠ (TJ6 b).2.1 := by decide +kernel
theorem tyJ6_ok : ∀ k, k < 0 → parseFieldDescriptor (TJ6 k).2.2.1 = some (tyJ6 k) := by decide +kernel
abbrev cJ6_bitCount_0f7a4 : ByteArray := prog_21_method_49_code
def yJ6_bitCount_0f7a4 : MethodName := ⟨RJ6, "bitCount", "(I)I"⟩
def RJxab1ab : String := "java/lang/Iterable"
def TJxab1ab : u_T := fun k => match k with
  | _ => ("", "", "", false)
def tyJxab1ab : Nat → FieldType := fun k => match k with
  | _ => .int
abbrev wsJxab1ab0 : List Cond := u_ws RJxab1ab TJxab1ab 0
theorem nmJxab1ab : ∀ a, a < 0 → ∀ b, b < 0 → a ≠ b → (TJxab1ab a).2.1 ≠ (TJxab1ab b).2.1 := by decide +kernel
theorem tyJxab1ab_ok : ∀ k, k < 0 → parseFieldDescriptor (TJxab1ab k).2.2.1 = some (tyJxab1ab k) := by decide +kernel
def RJ9 : String := "java/lang/Math"
def TJ9 : u_T := fun k => match k with
  | _ => ("", "", "", false)
def tyJ9 : Nat → FieldType := fun k => match k with
  | _ => .int
abbrev wsJ90 : List Cond := u_ws RJ9 TJ9 0
theorem nmJ9 : ∀ a, a < 0 → ∀ b, b < 0 → a ≠ b → (TJ9 a).2.1 ≠ (TJ9 b).2.1 := by decide +kernel
theorem tyJ9_ok : ∀ k, k < 0 → parseFieldDescriptor (TJ9 k).2.2.1 = some (tyJ9 k) := by decide +kernel
abbrev cJ9_abs_0f7a4 : ByteArray := prog_23_method_59_code
def yJ9_abs_0f7a4 : MethodName := ⟨RJ9, "abs", "(I)I"⟩
abbrev cJ9_abs_067f4 : ByteArray := prog_23_method_61_code
def yJ9_abs_067f4 : MethodName := ⟨RJ9, "abs", "(J)J"⟩
abbrev cJ9_max_7cf53 : ByteArray := prog_23_method_65_code
def yJ9_max_7cf53 : MethodName := ⟨RJ9, "max", "(II)I"⟩
abbrev cJ9_max_f86c9 : ByteArray := prog_23_method_66_code
def yJ9_max_f86c9 : MethodName := ⟨RJ9, "max", "(JJ)J"⟩
abbrev cJ9_min_7cf53 : ByteArray := prog_23_method_69_code
def yJ9_min_7cf53 : MethodName := ⟨RJ9, "min", "(II)I"⟩
abbrev cJ9_min_f86c9 : ByteArray := prog_23_method_70_code
def yJ9_min_f86c9 : MethodName := ⟨RJ9, "min", "(JJ)J"⟩
def RJ0 : String := "java/lang/String"
def TJ0 : u_T := fun k => match k with
  | _ => ("", "", "", false)
def tyJ0 : Nat → FieldType := fun k => match k with
  | _ => .int
abbrev wsJ00 : List Cond := u_ws RJ0 TJ0 0
theorem nmJ0 : ∀ a, a < 0 → ∀ b, b < 0 → a ≠ b → (TJ0 a).2.1 ≠ (TJ0 b).2.1 := by decide +kernel
theorem tyJ0_ok : ∀ k, k < 0 → parseFieldDescriptor (TJ0 k).2.2.1 = some (tyJ0 k) := by decide +kernel
abbrev cJ0_length_8abf5 : ByteArray := prog_25_method_54_code
def yJ0_length_8abf5 : MethodName := ⟨RJ0, "length", "()I"⟩
abbrev cJ0_indexOf_0f7a4 : ByteArray := prog_25_method_79_code
def yJ0_indexOf_0f7a4 : MethodName := ⟨RJ0, "indexOf", "(I)I"⟩
abbrev cJ0_indexOf_7cf53 : ByteArray := prog_25_method_80_code
def yJ0_indexOf_7cf53 : MethodName := ⟨RJ0, "indexOf", "(II)I"⟩
abbrev cJ0_coder_7d493 : ByteArray := prog_25_method_152_code
def yJ0_coder_7d493 : MethodName := ⟨RJ0, "coder", "()B"⟩
abbrev cJ0_isLatin1_aae02 : ByteArray := prog_25_method_154_code
def yJ0_isLatin1_aae02 : MethodName := ⟨RJ0, "isLatin1", "()Z"⟩
abbrev cJ0_checkBoundsBeginEnd_23922 : ByteArray := prog_25_method_158_code
def yJ0_checkBoundsBeginEnd_23922 : MethodName := ⟨RJ0, "checkBoundsBeginEnd", "(III)V"⟩
def RJ1 : String := "java/lang/StringLatin1"
def TJ1 : u_T := fun k => match k with
  | _ => ("", "", "", false)
def tyJ1 : Nat → FieldType := fun k => match k with
  | _ => .int
abbrev wsJ10 : List Cond := u_ws RJ1 TJ1 0
theorem nmJ1 : ∀ a, a < 0 → ∀ b, b < 0 → a ≠ b → (TJ1 a).2.1 ≠ (TJ1 b).2.1 := by decide +kernel
theorem tyJ1_ok : ∀ k, k < 0 → parseFieldDescriptor (TJ1 k).2.2.1 = some (tyJ1 k) := by decide +kernel
abbrev cJ1_canEncode_9a6ad : ByteArray := prog_26_method_4_code
def yJ1_canEncode_9a6ad : MethodName := ⟨RJ1, "canEncode", "(I)Z"⟩
abbrev cJ1_indexOf_4cfef : ByteArray := prog_26_method_22_code
def yJ1_indexOf_4cfef : MethodName := ⟨RJ1, "indexOf", "([BIII)I"⟩
abbrev cJ1_indexOfChar_4cfef : ByteArray := prog_26_method_23_code
def yJ1_indexOfChar_4cfef : MethodName := ⟨RJ1, "indexOfChar", "([BIII)I"⟩
def RJ2 : String := "java/lang/StringUTF16"
def TJ2 : u_T := fun k => match k with
  | _ => ("", "", "", false)
def tyJ2 : Nat → FieldType := fun k => match k with
  | _ => .int
abbrev wsJ20 : List Cond := u_ws RJ2 TJ2 0
theorem nmJ2 : ∀ a, a < 0 → ∀ b, b < 0 → a ≠ b → (TJ2 a).2.1 ≠ (TJ2 b).2.1 := by decide +kernel
theorem tyJ2_ok : ∀ k, k < 0 → parseFieldDescriptor (TJ2 k).2.2.1 = some (tyJ2 k) := by decide +kernel
abbrev cJ2_getChar_3b067 : ByteArray := prog_27_method_5_code
def yJ2_getChar_3b067 : MethodName := ⟨RJ2, "getChar", "([BI)C"⟩
abbrev cJ2_length_9d52b : ByteArray := prog_27_method_6_code
def yJ2_length_9d52b : MethodName := ⟨RJ2, "length", "([B)I"⟩
abbrev cJ2_indexOf_4cfef : ByteArray := prog_27_method_40_code
def yJ2_indexOf_4cfef : MethodName := ⟨RJ2, "indexOf", "([BIII)I"⟩
abbrev cJ2_indexOfChar_4cfef : ByteArray := prog_27_method_47_code
def yJ2_indexOfChar_4cfef : MethodName := ⟨RJ2, "indexOfChar", "([BIII)I"⟩
abbrev cJ2_indexOfCharUnsafe_4cfef : ByteArray := prog_27_method_48_code
def yJ2_indexOfCharUnsafe_4cfef : MethodName := ⟨RJ2, "indexOfCharUnsafe", "([BIII)I"⟩
abbrev cJ2_indexOfSupplementary_4cfef : ByteArray := prog_27_method_49_code
def yJ2_indexOfSupplementary_4cfef : MethodName := ⟨RJ2, "indexOfSupplementary", "([BIII)I"⟩
abbrev cJ2_checkBoundsBeginEnd_d044e : ByteArray := prog_27_method_93_code
def yJ2_checkBoundsBeginEnd_d044e : MethodName := ⟨RJ2, "checkBoundsBeginEnd", "(II[B)V"⟩
def RJ10 : String := "java/lang/System"
def TJ10 : u_T := fun k => match k with
  | _ => ("", "", "", false)
def tyJ10 : Nat → FieldType := fun k => match k with
  | _ => .int
abbrev wsJ100 : List Cond := u_ws RJ10 TJ10 0
theorem nmJ10 : ∀ a, a < 0 → ∀ b, b < 0 → a ≠ b → (TJ10 a).2.1 ≠ (TJ10 b).2.1 := by decide +kernel
theorem tyJ10_ok : ∀ k, k < 0 → parseFieldDescriptor (TJ10 k).2.2.1 = some (tyJ10 k) := by decide +kernel
def RJxfd54e : String := "java/lang/constant/Constable"
def TJxfd54e : u_T := fun k => match k with
  | _ => ("", "", "", false)
def tyJxfd54e : Nat → FieldType := fun k => match k with
  | _ => .int
abbrev wsJxfd54e0 : List Cond := u_ws RJxfd54e TJxfd54e 0
theorem nmJxfd54e : ∀ a, a < 0 → ∀ b, b < 0 → a ≠ b → (TJxfd54e a).2.1 ≠ (TJxfd54e b).2.1 := by decide +kernel
theorem tyJxfd54e_ok : ∀ k, k < 0 → parseFieldDescriptor (TJxfd54e k).2.2.1 = some (tyJxfd54e k) := by decide +kernel
def RJx3cf43 : String := "java/lang/constant/ConstantDesc"
def TJx3cf43 : u_T := fun k => match k with
  | _ => ("", "", "", false)
def tyJx3cf43 : Nat → FieldType := fun k => match k with
  | _ => .int
abbrev wsJx3cf430 : List Cond := u_ws RJx3cf43 TJx3cf43 0
theorem nmJx3cf43 : ∀ a, a < 0 → ∀ b, b < 0 → a ≠ b → (TJx3cf43 a).2.1 ≠ (TJx3cf43 b).2.1 := by decide +kernel
theorem tyJx3cf43_ok : ∀ k, k < 0 → parseFieldDescriptor (TJx3cf43 k).2.2.1 = some (tyJx3cf43 k) := by decide +kernel
def RJxa1e45 : String := "java/util/AbstractCollection"
def TJxa1e45 : u_T := fun k => match k with
  | _ => ("", "", "", false)
def tyJxa1e45 : Nat → FieldType := fun k => match k with
  | _ => .int
abbrev wsJxa1e450 : List Cond := u_ws RJxa1e45 TJxa1e45 0
theorem nmJxa1e45 : ∀ a, a < 0 → ∀ b, b < 0 → a ≠ b → (TJxa1e45 a).2.1 ≠ (TJxa1e45 b).2.1 := by decide +kernel
theorem tyJxa1e45_ok : ∀ k, k < 0 → parseFieldDescriptor (TJxa1e45 k).2.2.1 = some (tyJxa1e45 k) := by decide +kernel
abbrev cJxa1e45_init_da8c8 : ByteArray := prog_32_method_1_code
def yJxa1e45_init_da8c8 : MethodName := ⟨RJxa1e45, "<init>", "()V"⟩
def RJxc12de : String := "java/util/AbstractList"
def TJxc12de : u_T := fun k => match k with
  | _ => ("", "", "", false)
def tyJxc12de : Nat → FieldType := fun k => match k with
  | _ => .int
abbrev wsJxc12de0 : List Cond := u_ws RJxc12de TJxc12de 0
theorem nmJxc12de : ∀ a, a < 0 → ∀ b, b < 0 → a ≠ b → (TJxc12de a).2.1 ≠ (TJxc12de b).2.1 := by decide +kernel
theorem tyJxc12de_ok : ∀ k, k < 0 → parseFieldDescriptor (TJxc12de k).2.2.1 = some (tyJxc12de k) := by decide +kernel
abbrev cJxc12de_init_da8c8 : ByteArray := prog_33_method_1_code
def yJxc12de_init_da8c8 : MethodName := ⟨RJxc12de, "<init>", "()V"⟩
def RJx4a65c : String := "java/util/ArrayList"
def TJx4a65c : u_T := fun k => match k with
  | 0 => ("java/util/AbstractList", "modCount", "I", false)
  | 1 => ("java/util/ArrayList", "elementData", "[Ljava/lang/Object;", false)
  | _ => ("java/util/ArrayList", "size", "I", false)
def tyJx4a65c : Nat → FieldType := fun k => match k with
  | 0 => .int
  | 1 => .array (.object "java/lang/Object")
  | _ => .int
abbrev wsJx4a65c0 : List Cond := u_ws RJx4a65c TJx4a65c 3
theorem nmJx4a65c : ∀ a, a < 3 → ∀ b, b < 3 → a ≠ b → (TJx4a65c a).2.1 ≠ (TJx4a65c b).2.1 := by decide +kernel
theorem tyJx4a65c_ok : ∀ k, k < 3 → parseFieldDescriptor (TJx4a65c k).2.2.1 = some (tyJx4a65c k) := by decide +kernel
abbrev cJx4a65c_init_da8c8 : ByteArray := prog_34_method_2_code
def yJx4a65c_init_da8c8 : MethodName := ⟨RJx4a65c, "<init>", "()V"⟩
abbrev cJx4a65c_grow_92f84 : ByteArray := prog_34_method_6_code
def yJx4a65c_grow_92f84 : MethodName := ⟨RJx4a65c, "grow", "(I)[Ljava/lang/Object;"⟩
abbrev cJx4a65c_grow_d5877 : ByteArray := prog_34_method_7_code
def yJx4a65c_grow_d5877 : MethodName := ⟨RJx4a65c, "grow", "()[Ljava/lang/Object;"⟩
abbrev cJx4a65c_size_8abf5 : ByteArray := prog_34_method_8_code
def yJx4a65c_size_8abf5 : MethodName := ⟨RJx4a65c, "size", "()I"⟩
abbrev cJx4a65c_elementData_915e3 : ByteArray := prog_34_method_18_code
def yJx4a65c_elementData_915e3 : MethodName := ⟨RJx4a65c, "elementData", "(I)Ljava/lang/Object;"⟩
abbrev cJx4a65c_get_915e3 : ByteArray := prog_34_method_20_code
def yJx4a65c_get_915e3 : MethodName := ⟨RJx4a65c, "get", "(I)Ljava/lang/Object;"⟩
abbrev cJx4a65c_add_72be8 : ByteArray := prog_34_method_24_code
def yJx4a65c_add_72be8 : MethodName := ⟨RJx4a65c, "add", "(Ljava/lang/Object;[Ljava/lang/Object;I)V"⟩
abbrev cJx4a65c_add_9ea2d : ByteArray := prog_34_method_25_code
def yJx4a65c_add_9ea2d : MethodName := ⟨RJx4a65c, "add", "(Ljava/lang/Object;)Z"⟩
def RJ7 : String := "java/util/Arrays"
def TJ7 : u_T := fun k => match k with
  | _ => ("", "", "", false)
def tyJ7 : Nat → FieldType := fun k => match k with
  | _ => .int
abbrev wsJ70 : List Cond := u_ws RJ7 TJ7 0
theorem nmJ7 : ∀ a, a < 0 → ∀ b, b < 0 → a ≠ b → (TJ7 a).2.1 ≠ (TJ7 b).2.1 := by decide +kernel
theorem tyJ7_ok : ∀ k, k < 0 → parseFieldDescriptor (TJ7 k).2.2.1 = some (tyJ7 k) := by decide +kernel
abbrev cJ7_fill_53178 : ByteArray := prog_35_method_103_code
def yJ7_fill_53178 : MethodName := ⟨RJ7, "fill", "([II)V"⟩
abbrev cJ7_copyOf_1904c : ByteArray := prog_35_method_119_code
def yJ7_copyOf_1904c : MethodName := ⟨RJ7, "copyOf", "([Ljava/lang/Object;I)[Ljava/lang/Object;"⟩
abbrev cJ7_copyOf_6403c : ByteArray := prog_35_method_120_code
def yJ7_copyOf_6403c : MethodName := ⟨RJ7, "copyOf", "([Ljava/lang/Object;ILjava/lang/Class;)[Ljava/lang/Object;"⟩
abbrev cJ7_copyOf_59c91 : ByteArray := prog_35_method_123_code
def yJ7_copyOf_59c91 : MethodName := ⟨RJ7, "copyOf", "([II)[I"⟩
def RJx5ef63 : String := "java/util/Collection"
def TJx5ef63 : u_T := fun k => match k with
  | _ => ("", "", "", false)
def tyJx5ef63 : Nat → FieldType := fun k => match k with
  | _ => .int
abbrev wsJx5ef630 : List Cond := u_ws RJx5ef63 TJx5ef63 0
theorem nmJx5ef63 : ∀ a, a < 0 → ∀ b, b < 0 → a ≠ b → (TJx5ef63 a).2.1 ≠ (TJx5ef63 b).2.1 := by decide +kernel
theorem tyJx5ef63_ok : ∀ k, k < 0 → parseFieldDescriptor (TJx5ef63 k).2.2.1 = some (tyJx5ef63 k) := by decide +kernel
def RJxbd725 : String := "java/util/List"
def TJxbd725 : u_T := fun k => match k with
  | _ => ("", "", "", false)
def tyJxbd725 : Nat → FieldType := fun k => match k with
  | _ => .int
abbrev wsJxbd7250 : List Cond := u_ws RJxbd725 TJxbd725 0
theorem nmJxbd725 : ∀ a, a < 0 → ∀ b, b < 0 → a ≠ b → (TJxbd725 a).2.1 ≠ (TJxbd725 b).2.1 := by decide +kernel
theorem tyJxbd725_ok : ∀ k, k < 0 → parseFieldDescriptor (TJxbd725 k).2.2.1 = some (tyJxbd725 k) := by decide +kernel
def RJ15 : String := "java/util/Objects"
def TJ15 : u_T := fun k => match k with
  | _ => ("", "", "", false)
def tyJ15 : Nat → FieldType := fun k => match k with
  | _ => .int
abbrev wsJ150 : List Cond := u_ws RJ15 TJ15 0
theorem nmJ15 : ∀ a, a < 0 → ∀ b, b < 0 → a ≠ b → (TJ15 a).2.1 ≠ (TJ15 b).2.1 := by decide +kernel
theorem tyJ15_ok : ∀ k, k < 0 → parseFieldDescriptor (TJ15 k).2.2.1 = some (tyJ15 k) := by decide +kernel
abbrev cJ15_checkIndex_7cf53 : ByteArray := prog_39_method_17_code
def yJ15_checkIndex_7cf53 : MethodName := ⟨RJ15, "checkIndex", "(II)I"⟩
def RJxf0a74 : String := "java/util/RandomAccess"
def TJxf0a74 : u_T := fun k => match k with
  | _ => ("", "", "", false)
def tyJxf0a74 : Nat → FieldType := fun k => match k with
  | _ => .int
abbrev wsJxf0a740 : List Cond := u_ws RJxf0a74 TJxf0a74 0
theorem nmJxf0a74 : ∀ a, a < 0 → ∀ b, b < 0 → a ≠ b → (TJxf0a74 a).2.1 ≠ (TJxf0a74 b).2.1 := by decide +kernel
theorem tyJxf0a74_ok : ∀ k, k < 0 → parseFieldDescriptor (TJxf0a74 k).2.2.1 = some (tyJxf0a74 k) := by decide +kernel
def RJxa66e6 : String := "java/util/SequencedCollection"
def TJxa66e6 : u_T := fun k => match k with
  | _ => ("", "", "", false)
def tyJxa66e6 : Nat → FieldType := fun k => match k with
  | _ => .int
abbrev wsJxa66e60 : List Cond := u_ws RJxa66e6 TJxa66e6 0
theorem nmJxa66e6 : ∀ a, a < 0 → ∀ b, b < 0 → a ≠ b → (TJxa66e6 a).2.1 ≠ (TJxa66e6 b).2.1 := by decide +kernel
theorem tyJxa66e6_ok : ∀ k, k < 0 → parseFieldDescriptor (TJxa66e6 k).2.2.1 = some (tyJxa66e6 k) := by decide +kernel
def RJ8 : String := "jdk/internal/util/ArraysSupport"
def TJ8 : u_T := fun k => match k with
  | _ => ("", "", "", false)
def tyJ8 : Nat → FieldType := fun k => match k with
  | _ => .int
abbrev wsJ80 : List Cond := u_ws RJ8 TJ8 0
theorem nmJ8 : ∀ a, a < 0 → ∀ b, b < 0 → a ≠ b → (TJ8 a).2.1 ≠ (TJ8 b).2.1 := by decide +kernel
theorem tyJ8_ok : ∀ k, k < 0 → parseFieldDescriptor (TJ8 k).2.2.1 = some (tyJ8 k) := by decide +kernel
abbrev cJ8_newLength_cabcc : ByteArray := prog_42_method_27_code
def yJ8_newLength_cabcc : MethodName := ⟨RJ8, "newLength", "(III)I"⟩
abbrev cJ8_hugeLength_7cf53 : ByteArray := prog_42_method_28_code
def yJ8_hugeLength_7cf53 : MethodName := ⟨RJ8, "hugeLength", "(II)I"⟩
def RJ3 : String := "jdk/internal/util/Preconditions"
def TJ3 : u_T := fun k => match k with
  | _ => ("", "", "", false)
def tyJ3 : Nat → FieldType := fun k => match k with
  | _ => .int
abbrev wsJ30 : List Cond := u_ws RJ3 TJ3 0
theorem nmJ3 : ∀ a, a < 0 → ∀ b, b < 0 → a ≠ b → (TJ3 a).2.1 ≠ (TJ3 b).2.1 := by decide +kernel
theorem tyJ3_ok : ∀ k, k < 0 → parseFieldDescriptor (TJ3 k).2.2.1 = some (tyJ3 k) := by decide +kernel
abbrev cJ3_checkIndex_8e157 : ByteArray := prog_43_method_11_code
def yJ3_checkIndex_8e157 : MethodName := ⟨RJ3, "checkIndex", "(IILjava/util/function/BiFunction;)I"⟩
abbrev cJ3_checkFromToIndex_8c36e : ByteArray := prog_43_method_12_code
def yJ3_checkFromToIndex_8c36e : MethodName := ⟨RJ3, "checkFromToIndex", "(IIILjava/util/function/BiFunction;)I"⟩
def RL : String := "DiaryHouseLaw"
abbrev cL_told : ByteArray := method_3_code
def yL_told : MethodName := ⟨RL, "told", "(LDiaryHouse;II[J)I"⟩
abbrev cL_law : ByteArray := code
def yL_law : MethodName := ⟨RL, "law", "([I)Z"⟩
abbrev vwCl : List vw_C := [(RJx4a65c, TJx4a65c, 3), (RX0, TX0, 5), (RX1, TX1, 7), (RX2, TX2, 4), (RX3, TX3, 2), (RX4, TX4, 4), (RX5, TX5, 2), (RX6, TX6, 3), (RX7, TX7, 3), (RX8, TX8, 9), (RX9, TX9, 5), (RX10, TX10, 3), (RX11, TX11, 17), (RX12, TX12, 66)]
end
section
/-! FOUNDATION: one memory for all cells (address to kind, size, contents), a judgement XJ of a frame over it, a contract CT of a method over it. -/
abbrev Cel : Type := Nat × Nat × (Nat → Value)
abbrev Mem : Type := Nat → Option Cel
abbrev Lv : Type := List (Nat × Value)
/-- launch, the state at the law's entry, class numbers, array classes -/
abbrev Gam : Type := Launch × State × va_G × (Nat → ClassId)
/-- a method: name, code, locals, what it returns -/
abbrev MR : Type := MethodName × ByteArray × Nat × Option FieldType
def tyA (k : Nat) : FieldType := match k with
  | 101 => .byte
  | 102 => .char
  | 103 => .boolean
  | 104 => .long
  | 105 => .array .int
  | 106 => .object "java/lang/Object"
  | _ => .int
def cAt (D : va_G) (tA : Nat → ClassId) (a : Nat) (c : Cel) (H : Heap) : Prop :=
  (c.1 < 100 ∧ ∃ q : vw_C, vwCl[c.1]? = some q ∧ q.2.2 = c.2.1 ∧ t_OB a (D.1 c.1) q.2.2 (D.2 c.1) H c.2.2) ∨ (100 ≤ c.1 ∧ H[a]? = some (arrV (tA c.1) c.2.1 c.2.2))
def Rel (G : Gam) (M : Mem) (H : Heap) : Prop := ∀ (a : Nat) (c : Cel), M a = some c → G.2.1.heap.size ≤ a ∧ cAt G.2.2.1 G.2.2.2 a c H
def OldOK (G : Gam) (H : Heap) : Prop := G.2.1.heap.size ≤ H.size ∧ ∀ q : Nat, q < G.2.1.heap.size → H[q]? = G.2.1.heap[q]?
/-- what the tables say of an array class -/
def ArrK (U : State) (tA : Nat → ClassId) (k : Nat) : Prop := ArrOfT U (tA k) (tyA k) ∧ U.vm.findClass ("[" ++ (tyA k).toString) = some (tA k) ∧ ∃ (kA : Class) (comp : ClassId), U.vm.classes[tA k]? = some kA ∧ kA.kind = .array comp (tyA k)
def BaseOK (G : Gam) : Prop :=
  (∃ b : Nat, ∀ w ∈ lw_tbl, w.before #[Value.ref b] G.2.1 = true) ∧ va_K G.2.2.1 vwCl [] G.2.1 ∧ (∀ k, 100 ≤ k → k < 107 → ArrK G.2.1 G.2.2.2 k)
def AX (M : Mem) (sz : Nat) : Nat → Prop := fun q => (∃ c, M q = some c) ∨ sz ≤ q
def QX (G : Gam) (A : Nat → Prop) (Q : Option Value → Mem → Prop) : Array Value → State → Outcome → State → Prop := fun _ st oc t =>
  (∃ (r : Option Value) (M : Mem), oc = .returned r ∧ Q r M ∧ Rel G M t.heap ∧ ∀ a c, M a = some c → A a) ∧ va_F A st t
def rmX (d : Nat) (k : Nat × Nat) : Room := { frames := d, cells := k.1, slots := k.2, locals := 64 * d }
def PX (G : Gam) (M : Mem) (sz : Nat) (U : State) : Prop := BaseOK G ∧ G.2.1.WarmedH U.vm ∧ OldOK G U.heap ∧ U.heap.size = sz ∧ Rel G M U.heap
def CT (G : Gam) (d : Nat) (k : Nat × Nat) (Y : MR) (av : List Value) (M : Mem) (Q : Option Value → Mem → Prop) : Prop :=
  ∀ sz : Nat, Met G.1 Y.1 [.code Y.1 Y.2.1 Y.2.2.1 Y.2.2.2] (rmX d k) (va_Pc av (PX G M sz)) (QX G (AX M sz) Q) k.1 k.2 (AX M sz)
def XC (G : Gam) (d : Nat) (Y : MR) (p : Program) (R : Room) (s : State) (m : MethodId) (meth : Method) (c : Code) (A : Nat → Prop) : Prop :=
  BaseOK G ∧ p.tables.exec = Jvm.exec ∧ c.code = Y.2.1 ∧ meth.sig.returnType = Y.2.2.2 ∧ c.maxLocals = Y.2.2.1 ∧ s.vm.findClass Y.1.cls = some m.cls ∧ meth.locks = false ∧ meth.name = Y.1.name ∧
  G.2.1.WarmedH s.vm ∧ R.frames = d ∧ R.locals = 64 * d ∧ (∀ q, s.heap.size ≤ q → A q) ∧ (∀ q, A q → G.2.1.heap.size ≤ q) ∧ OldOK G s.heap
def XH (G : Gam) (k : Nat × Nat) (M : Mem) (R : Room) (s : State) (A : Nat → Prop) (H : Heap) (locs : List Loc) (cells slots : Nat) : Prop :=
  Rel G M H ∧ (∀ a c, M a = some c → A a) ∧ va_S A s.heap H locs ∧ cells + k.1 ≤ R.cells ∧ slots + k.2 ≤ R.slots
def XJ (G : Gam) (d : Nat) (k : Nat × Nat) (Y : MR) (M : Mem) (lv : Lv) (st : List Value) (pc : Nat) (Q : Option Value → Mem → Prop) : Prop :=
  ∀ (p : Program) (e : Env) (R : Room) (s : State) (m : MethodId) (args : Array Value) (below : List Frame) (meth : Method) (c : Code) (H : Heap) (locs : List Loc) (cells slots : Nat) (A : Nat → Prop) (ls : Array Slot),
    XC G d Y p R s m meth c A → XH G k M R s A H locs cells slots → lv_has ls Y.2.2.1 lv →
    W p G.1 e R s m args below meth c H locs cells slots (MQ below (QX G A Q) args s R.cells R.slots A) (F0 m pc ls st)
/-! words of the tables, anywhere -/
theorem tb_good {G : Gam} (hB : BaseOK G) {w : Cond} (hw : w ∈ lw_tbl) (hg : goodWord w = true) {args : Array Value} {s : State} (hW : G.2.1.WarmedH s.vm) : w.before args s = true := by
  obtain ⟨⟨b, h⟩, -⟩ := hB
  exact word_at hW (good_of_word hg) (h w hw)
theorem tb_nestF {G : Gam} (hB : BaseOK G) {own ref name desc host : String} {i : Nat} (hw : Cond.fieldLinkNest own i ref name desc host ∈ lw_tbl) {args : Array Value} {s : State} (hW : G.2.1.WarmedH s.vm) : (Cond.fieldLinkNest own i ref name desc host).before args s = true := by
  obtain ⟨⟨b, h⟩, -⟩ := hB
  exact va_Nw.use rfl (va_Nw.warmF hW (va_Nw.of rfl (h _ hw)))
theorem tb_nestM {G : Gam} (hB : BaseOK G) {own host : String} {i : Nat} {y : MethodName} (hw : Cond.methodLinkNest own i y host ∈ lw_tbl) {s : State} (hW : G.2.1.WarmedH s.vm) : va_Nw (Cond.methodLinkNest own i y host) s := by
  obtain ⟨⟨b, h⟩, -⟩ := hB
  exact va_Nw.warmM hW (va_Nw.of rfl (h _ hw))
theorem bs_K {G : Gam} (hB : BaseOK G) {s : State} (hW : G.2.1.WarmedH s.vm) : va_K G.2.2.1 vwCl [] s := va_K.moved hW.alike hB.2.1
theorem oldX {G : Gam} {A : Nat → Prop} {s : State} {H : Heap} {locs : List Loc} (hO : OldOK G s.heap) (hS : va_S A s.heap H locs) (hb : ∀ q, A q → G.2.1.heap.size ≤ q) : OldOK G H :=
  ⟨Nat.le_trans hO.1 hS.1, fun q hq => (hS.2.1 q (Nat.lt_of_lt_of_le hq hO.1) (fun h => absurd (hb q h) (Nat.not_le.mpr hq))).trans (hO.2 q hq)⟩
/-! locals -/
def lget : Lv → Nat → Option Value
  | [], _ => none
  | (j, v) :: t, i => bif Nat.beq j i then some v else lget t i
theorem lget_mem : ∀ {lv : Lv} {i : Nat} {v : Value}, lget lv i = some v → (i, v) ∈ lv
  | [], _, _, h => by cases h
  | (j, w) :: t, i, v, h => by
    unfold lget at h
    cases e : Nat.beq j i with
    | true =>
      rw [e] at h
      have hj : j = i := Nat.eq_of_beq_eq_true e
      cases h
      subst hj
      exact List.mem_cons_self
    | false =>
      rw [e] at h
      exact List.mem_cons_of_mem _ (lget_mem h)
theorem lget_has {ls : Array Slot} {n : Nat} {lv : Lv} (h : lv_has ls n lv) {i : Nat} {v : Value} (hg : lget lv i = some v) : ls[i]? = some (.val v) := h.2.2 (i, v) (lget_mem hg)
theorem lget_lt {ls : Array Slot} {n : Nat} {lv : Lv} (h : lv_has ls n lv) {i : Nat} {v : Value} (hg : lget lv i = some v) : i < n := by
  have := (Array.getElem?_eq_some_iff.mp (lget_has h hg)).1
  rw [← h.1]; exact this
def lkil (i : Nat) : Lv → Lv
  | [] => []
  | (j, v) :: t => bif Nat.beq j i then lkil i t else (bif Nat.beq (j + 1) i && Nat.beq v.category 2 then lkil i t else (j, v) :: lkil i t)
theorem lkil_sub : ∀ {lv : Lv} {i : Nat} {q : Nat × Value}, q ∈ lkil i lv → q ∈ lv.filter (fun q => !(q.1 == i) && !(q.1 + 1 == i && q.2.category == 2))
  | [], _, _, h => by cases h
  | (j, w) :: t, i, q, h => by
    unfold lkil at h
    rw [List.filter_cons]
    cases e : Nat.beq j i with
    | true =>
      rw [e] at h
      have hj : (j == i) = true := by rw [beq_iff_eq]; exact Nat.eq_of_beq_eq_true e
      simp only [hj, Bool.not_true, Bool.false_and, Bool.false_eq_true, if_false]
      exact lkil_sub h
    | false =>
      rw [e] at h
      have hj : (j == i) = false := by
        rw [beq_eq_false_iff_ne]; exact Nat.ne_of_beq_eq_false e
      cases e2 : (Nat.beq (j + 1) i && Nat.beq w.category 2) with
      | true =>
        rw [e2] at h
        have h3 := lkil_sub (lv := t) h
        split
        · exact List.mem_cons_of_mem _ h3
        · exact h3
      | false =>
        rw [e2] at h
        have hk : (j + 1 == i && w.category == 2) = false := by
          cases e3 : (j + 1 == i && w.category == 2) with
          | false => rfl
          | true =>
            rw [Bool.and_eq_true, beq_iff_eq, beq_iff_eq] at e3
            rw [e3.1, e3.2] at e2
            simp at e2
        simp only [hj, hk, Bool.not_false, Bool.and_true, if_true]
        rcases List.mem_cons.mp h with h | h
        · rw [h]; exact List.mem_cons_self
        · exact List.mem_cons_of_mem _ (lkil_sub h)
def lset (lv : Lv) (i : Nat) (v : Value) : Lv := (i, v) :: lkil i lv
theorem lset_has {ls : Array Slot} {n i : Nat} {v : Value} {lv : Lv} (h : lv_has ls n ((i, v) :: lv.filter (fun q => !(q.1 == i) && !(q.1 + 1 == i && q.2.category == 2)))) : lv_has ls n (lset lv i v) := by
  refine ⟨h.1, h.2.1, fun q hq => h.2.2 q ?_⟩
  rcases List.mem_cons.mp hq with hq | hq
  · rw [hq]; exact List.mem_cons_self
  · exact List.mem_cons_of_mem _ (lkil_sub hq)
/-- a long's two places -/
def lset2 (lv : Lv) (i : Nat) (v : Value) : Lv := (i, v) :: lkil (i + 1) (lkil i lv)
theorem lkil_mem {lv : Lv} {i : Nat} {q : Nat × Value} (h : q ∈ lkil i lv) : q ∈ lv ∧ q.1 ≠ i ∧ ¬ (q.1 + 1 = i ∧ q.2.category = 2) := by
  have h1 := List.mem_filter.mp (lkil_sub h)
  refine ⟨h1.1, ?_, ?_⟩
  · intro e
    have := h1.2
    simp [e] at this
  · intro ⟨e1, e2⟩
    have := h1.2
    simp [e1, e2] at this
theorem lset2_has {ls : Array Slot} {n i : Nat} {v : Value} {lv : Lv} (h : lv_has ls n ((i, v) :: lv.filter (fun q => !(q.1 == i) && (!(q.1 == i + 1) && !(q.1 + 1 == i && q.2.category == 2))))) : lv_has ls n (lset2 lv i v) := by
  refine ⟨h.1, h.2.1, fun q hq => h.2.2 q ?_⟩
  rcases List.mem_cons.mp hq with hq | hq
  · rw [hq]; exact List.mem_cons_self
  · obtain ⟨h1, h2, -⟩ := lkil_mem hq
    obtain ⟨h3, h4, h5⟩ := lkil_mem h1
    refine List.mem_cons_of_mem _ (List.mem_filter.mpr ⟨h3, ?_⟩)
    simp only [Bool.and_eq_true, Bool.not_eq_true', beq_eq_false_iff_ne, ne_eq, Bool.and_eq_false_iff]
    refine ⟨h4, h2, ?_⟩
    by_cases e : q.1 + 1 = i
    · exact Or.inr (by intro z; exact h5 ⟨e, by simpa using z⟩)
    · exact Or.inl e
/-- fewer listed locals -/
def lle : Lv → Lv → Prop
  | [], _ => True
  | (i, v) :: t, lv => lget lv i = some v ∧ lle t lv
theorem lle_has : ∀ {l1 lv : Lv} {ls : Array Slot} {n : Nat}, lle l1 lv → lv_has ls n lv → lv_has ls n l1
  | [], _, _, _, _, h => ⟨h.1, h.2.1, fun q hq => by cases hq⟩
  | (i, v) :: t, lv, ls, n, h1, h => by
    obtain ⟨a, b, c⟩ := lle_has (l1 := t) h1.2 h
    refine ⟨a, b, fun q hq => ?_⟩
    rcases List.mem_cons.mp hq with hq | hq
    · rw [hq]; exact lget_has h h1.1
    · exact c q hq
end
section
section XR
variable {G : Gam} {d : Nat} {k : Nat × Nat} {Y : MR} {M : Mem} {lv : Lv} {st : List Value} {pc : Nat} {Q : Option Value → Mem → Prop}
theorem x_iconst {n : Int} {v : Int32} (hd : decode Y.2.1 pc = .ok (.iconst n, 1)) (hv : Int32.ofInt n = v) (kk : XJ G d k Y M lv (.int v :: st) (pc + 1) Q) : XJ G d k Y M lv st pc Q :=
  fun p e R s m args below meth c H locs cells slots A ls hC hH hl => lv_iconst hC.2.1 hC.2.2.1 hd hv (kk p e R s m args below meth c H locs cells slots A ls hC hH hl)
theorem x_bipush {n : Int} {v : Int32} (hd : decode Y.2.1 pc = .ok (.bipush n, 2)) (hv : (Int8.ofInt n).toInt32 = v) (kk : XJ G d k Y M lv (.int v :: st) (pc + 2) Q) : XJ G d k Y M lv st pc Q :=
  fun p e R s m args below meth c H locs cells slots A ls hC hH hl => lv_bipush hC.2.1 hC.2.2.1 hd hv (kk p e R s m args below meth c H locs cells slots A ls hC hH hl)
theorem x_sipush {n : Int} {v : Int32} (hd : decode Y.2.1 pc = .ok (.sipush n, 3)) (hv : (Int16.ofInt n).toInt32 = v) (kk : XJ G d k Y M lv (.int v :: st) (pc + 3) Q) : XJ G d k Y M lv st pc Q :=
  fun p e R s m args below meth c H locs cells slots A ls hC hH hl => lv_sipush hC.2.1 hC.2.2.1 hd hv (kk p e R s m args below meth c H locs cells slots A ls hC hH hl)
theorem x_lconst {n : Fin 2} {v : Int64} (hd : decode Y.2.1 pc = .ok (.lconst n, 1)) (hv : Int64.ofNat (n : Nat) = v) (kk : XJ G d k Y M lv (.long v :: st) (pc + 1) Q) : XJ G d k Y M lv st pc Q :=
  fun p e R s m args below meth c H locs cells slots A ls hC hH hl => lv_lconst hC.2.1 hC.2.2.1 hd hv (kk p e R s m args below meth c H locs cells slots A ls hC hH hl)
theorem x_null  (hd : decode Y.2.1 pc = .ok (.aconst_null, 1)) (kk : XJ G d k Y M lv (.null :: st) (pc + 1) Q) : XJ G d k Y M lv st pc Q :=
  fun p e R s m args below meth c H locs cells slots A ls hC hH hl => lv_null hC.2.1 hC.2.2.1 hd (kk p e R s m args below meth c H locs cells slots A ls hC hH hl)
theorem x_iload_n {j : Fin 4} {i : Nat} {x : Int32} (hd : decode Y.2.1 pc = .ok (.iload_n j, 1)) (hi : (j : Nat) = i) (hg : lget lv i = some (.int x)) (kk : XJ G d k Y M lv (.int x :: st) (pc + 1) Q) : XJ G d k Y M lv st pc Q :=
  fun p e R s m args below meth c H locs cells slots A ls hC hH hl => lv_iload_n hC.2.1 hC.2.2.1 hd hi (lget_has hl hg) (kk p e R s m args below meth c H locs cells slots A ls hC hH hl)
theorem x_iload {i : Nat} {x : Int32} (hd : decode Y.2.1 pc = .ok (.iload i, 2)) (hg : lget lv i = some (.int x)) (kk : XJ G d k Y M lv (.int x :: st) (pc + 2) Q) : XJ G d k Y M lv st pc Q :=
  fun p e R s m args below meth c H locs cells slots A ls hC hH hl => lv_iload hC.2.1 hC.2.2.1 hd (lget_has hl hg) (kk p e R s m args below meth c H locs cells slots A ls hC hH hl)
theorem x_lload_n {j : Fin 4} {i : Nat} {x : Int64} (hd : decode Y.2.1 pc = .ok (.lload_n j, 1)) (hi : (j : Nat) = i) (hg : lget lv i = some (.long x)) (kk : XJ G d k Y M lv (.long x :: st) (pc + 1) Q) : XJ G d k Y M lv st pc Q :=
  fun p e R s m args below meth c H locs cells slots A ls hC hH hl => lv_lload_n hC.2.1 hC.2.2.1 hd hi (lget_has hl hg) (kk p e R s m args below meth c H locs cells slots A ls hC hH hl)
theorem x_lload {i : Nat} {x : Int64} (hd : decode Y.2.1 pc = .ok (.lload i, 2)) (hg : lget lv i = some (.long x)) (kk : XJ G d k Y M lv (.long x :: st) (pc + 2) Q) : XJ G d k Y M lv st pc Q :=
  fun p e R s m args below meth c H locs cells slots A ls hC hH hl => lv_lload hC.2.1 hC.2.2.1 hd (lget_has hl hg) (kk p e R s m args below meth c H locs cells slots A ls hC hH hl)
theorem x_aload_n {j : Fin 4} {i : Nat} {x : Nat} (hd : decode Y.2.1 pc = .ok (.aload_n j, 1)) (hi : (j : Nat) = i) (hg : lget lv i = some (.ref x)) (kk : XJ G d k Y M lv (.ref x :: st) (pc + 1) Q) : XJ G d k Y M lv st pc Q :=
  fun p e R s m args below meth c H locs cells slots A ls hC hH hl => lv_aload_n hC.2.1 hC.2.2.1 hd hi (lget_has hl hg) (kk p e R s m args below meth c H locs cells slots A ls hC hH hl)
theorem x_aload {i : Nat} {x : Nat} (hd : decode Y.2.1 pc = .ok (.aload i, 2)) (hg : lget lv i = some (.ref x)) (kk : XJ G d k Y M lv (.ref x :: st) (pc + 2) Q) : XJ G d k Y M lv st pc Q :=
  fun p e R s m args below meth c H locs cells slots A ls hC hH hl => lv_aload hC.2.1 hC.2.2.1 hd (lget_has hl hg) (kk p e R s m args below meth c H locs cells slots A ls hC hH hl)
theorem x_istore_n {j : Fin 4} {i : Nat} {x : Int32} (hd : decode Y.2.1 pc = .ok (.istore_n j, 1)) (hi : (j : Nat) = i) (hn : i < Y.2.2.1) (kk : XJ G d k Y M (lset lv i (.int x)) st (pc + 1) Q) : XJ G d k Y M lv (.int x :: st) pc Q :=
  fun p e R s m args below meth c H locs cells slots A ls hC hH hl => lv_istore_n hC.2.1 hC.2.2.1 hd hi hl hn rfl (fun ls' hl' => kk p e R s m args below meth c H locs cells slots A ls' hC hH (lset_has hl'))
theorem x_istore {i : Nat} {x : Int32} (hd : decode Y.2.1 pc = .ok (.istore i, 2)) (hn : i < Y.2.2.1) (kk : XJ G d k Y M (lset lv i (.int x)) st (pc + 2) Q) : XJ G d k Y M lv (.int x :: st) pc Q :=
  fun p e R s m args below meth c H locs cells slots A ls hC hH hl => lv_istore hC.2.1 hC.2.2.1 hd hl hn rfl (fun ls' hl' => kk p e R s m args below meth c H locs cells slots A ls' hC hH (lset_has hl'))
theorem x_lstore_n {j : Fin 4} {i : Nat} {x : Int64} (hd : decode Y.2.1 pc = .ok (.lstore_n j, 1)) (hi : (j : Nat) = i) (hn : i + 1 < Y.2.2.1) (kk : XJ G d k Y M (lset2 lv i (.long x)) st (pc + 1) Q) : XJ G d k Y M lv (.long x :: st) pc Q :=
  fun p e R s m args below meth c H locs cells slots A ls hC hH hl => lv_lstore_n hC.2.1 hC.2.2.1 hd hi hl hn rfl (fun ls' hl' => kk p e R s m args below meth c H locs cells slots A ls' hC hH (lset2_has hl'))
theorem x_lstore {i : Nat} {x : Int64} (hd : decode Y.2.1 pc = .ok (.lstore i, 2)) (hn : i + 1 < Y.2.2.1) (kk : XJ G d k Y M (lset2 lv i (.long x)) st (pc + 2) Q) : XJ G d k Y M lv (.long x :: st) pc Q :=
  fun p e R s m args below meth c H locs cells slots A ls hC hH hl => lv_lstore hC.2.1 hC.2.2.1 hd hl hn rfl (fun ls' hl' => kk p e R s m args below meth c H locs cells slots A ls' hC hH (lset2_has hl'))
theorem x_astore_n {j : Fin 4} {i : Nat} {x : Nat} (hd : decode Y.2.1 pc = .ok (.astore_n j, 1)) (hi : (j : Nat) = i) (hn : i < Y.2.2.1) (kk : XJ G d k Y M (lset lv i (.ref x)) st (pc + 1) Q) : XJ G d k Y M lv (.ref x :: st) pc Q :=
  fun p e R s m args below meth c H locs cells slots A ls hC hH hl => lv_astore_n hC.2.1 hC.2.2.1 hd hi hl hn rfl (fun ls' hl' => kk p e R s m args below meth c H locs cells slots A ls' hC hH (lset_has hl'))
theorem x_astore {i : Nat} {x : Nat} (hd : decode Y.2.1 pc = .ok (.astore i, 2)) (hn : i < Y.2.2.1) (kk : XJ G d k Y M (lset lv i (.ref x)) st (pc + 2) Q) : XJ G d k Y M lv (.ref x :: st) pc Q :=
  fun p e R s m args below meth c H locs cells slots A ls hC hH hl => lv_astore hC.2.1 hC.2.2.1 hd hl hn rfl (fun ls' hl' => kk p e R s m args below meth c H locs cells slots A ls' hC hH (lset_has hl'))
theorem x_iinc {i : Nat} {n : Int} {x c : Int32} (hd : decode Y.2.1 pc = .ok (.iinc i n, 3)) (hg : lget lv i = some (.int x)) (hv : Int32.ofInt n = c) (kk : XJ G d k Y M (lset lv i (.int (x + c))) st (pc + 3) Q) : XJ G d k Y M lv st pc Q := by
  subst hv
  intro p e R s m args below meth c H locs cells slots A ls hC hH hl
  obtain ⟨j, hj⟩ := List.getElem?_of_mem (lget_mem hg)
  exact lv_iinc hC.2.1 hC.2.2.1 hd hl hj rfl (lget_lt hl hg) rfl (fun ls' hl' => kk p e R s m args below meth c H locs cells slots A ls' hC hH (lset_has hl'))
theorem x_iadd {x y : Int32} (hd : decode Y.2.1 pc = .ok (.iadd, 1)) (kk : XJ G d k Y M lv (.int (x + y) :: st) (pc + 1) Q) : XJ G d k Y M lv (.int y :: .int x :: st) pc Q :=
  fun p e R s m args below meth c H locs cells slots A ls hC hH hl => lv_iadd hC.2.1 hC.2.2.1 hd (kk p e R s m args below meth c H locs cells slots A ls hC hH hl)
theorem x_isub {x y : Int32} (hd : decode Y.2.1 pc = .ok (.isub, 1)) (kk : XJ G d k Y M lv (.int (x - y) :: st) (pc + 1) Q) : XJ G d k Y M lv (.int y :: .int x :: st) pc Q :=
  fun p e R s m args below meth c H locs cells slots A ls hC hH hl => lv_isub hC.2.1 hC.2.2.1 hd (kk p e R s m args below meth c H locs cells slots A ls hC hH hl)
theorem x_imul {x y : Int32} (hd : decode Y.2.1 pc = .ok (.imul, 1)) (kk : XJ G d k Y M lv (.int (x * y) :: st) (pc + 1) Q) : XJ G d k Y M lv (.int y :: .int x :: st) pc Q :=
  fun p e R s m args below meth c H locs cells slots A ls hC hH hl => lv_imul hC.2.1 hC.2.2.1 hd (kk p e R s m args below meth c H locs cells slots A ls hC hH hl)
theorem x_iand {x y : Int32} (hd : decode Y.2.1 pc = .ok (.iand, 1)) (kk : XJ G d k Y M lv (.int (x &&& y) :: st) (pc + 1) Q) : XJ G d k Y M lv (.int y :: .int x :: st) pc Q :=
  fun p e R s m args below meth c H locs cells slots A ls hC hH hl => lv_iand hC.2.1 hC.2.2.1 hd (kk p e R s m args below meth c H locs cells slots A ls hC hH hl)
theorem x_ior {x y : Int32} (hd : decode Y.2.1 pc = .ok (.ior, 1)) (kk : XJ G d k Y M lv (.int (x ||| y) :: st) (pc + 1) Q) : XJ G d k Y M lv (.int y :: .int x :: st) pc Q :=
  fun p e R s m args below meth c H locs cells slots A ls hC hH hl => lv_ior hC.2.1 hC.2.2.1 hd (kk p e R s m args below meth c H locs cells slots A ls hC hH hl)
theorem x_ixor {x y : Int32} (hd : decode Y.2.1 pc = .ok (.ixor, 1)) (kk : XJ G d k Y M lv (.int (x ^^^ y) :: st) (pc + 1) Q) : XJ G d k Y M lv (.int y :: .int x :: st) pc Q :=
  fun p e R s m args below meth c H locs cells slots A ls hC hH hl => lv_ixor hC.2.1 hC.2.2.1 hd (kk p e R s m args below meth c H locs cells slots A ls hC hH hl)
theorem x_ishl {x y : Int32} (hd : decode Y.2.1 pc = .ok (.ishl, 1)) (kk : XJ G d k Y M lv (.int (x <<< (y &&& 31)) :: st) (pc + 1) Q) : XJ G d k Y M lv (.int y :: .int x :: st) pc Q :=
  fun p e R s m args below meth c H locs cells slots A ls hC hH hl => lv_ishl hC.2.1 hC.2.2.1 hd (kk p e R s m args below meth c H locs cells slots A ls hC hH hl)
theorem x_ishr {x y : Int32} (hd : decode Y.2.1 pc = .ok (.ishr, 1)) (kk : XJ G d k Y M lv (.int (x >>> (y &&& 31)) :: st) (pc + 1) Q) : XJ G d k Y M lv (.int y :: .int x :: st) pc Q :=
  fun p e R s m args below meth c H locs cells slots A ls hC hH hl => lv_ishr hC.2.1 hC.2.2.1 hd (kk p e R s m args below meth c H locs cells slots A ls hC hH hl)
theorem x_iushr {x y : Int32} (hd : decode Y.2.1 pc = .ok (.iushr, 1)) (kk : XJ G d k Y M lv (.int ((x.toUInt32 >>> (y.toUInt32 &&& Int32.toUInt32 31)).toInt32) :: st) (pc + 1) Q) : XJ G d k Y M lv (.int y :: .int x :: st) pc Q :=
  fun p e R s m args below meth c H locs cells slots A ls hC hH hl => lv_iushr hC.2.1 hC.2.2.1 hd rfl (kk p e R s m args below meth c H locs cells slots A ls hC hH hl)
theorem x_idiv {x y : Int32} (hd : decode Y.2.1 pc = .ok (.idiv, 1)) (hne : ¬ y = 0) (kk : XJ G d k Y M lv (.int (x / y) :: st) (pc + 1) Q) : XJ G d k Y M lv (.int y :: .int x :: st) pc Q :=
  fun p e R s m args below meth c H locs cells slots A ls hC hH hl => lv_idiv hC.2.1 hC.2.2.1 hd hne (kk p e R s m args below meth c H locs cells slots A ls hC hH hl)
theorem x_irem {x y : Int32} (hd : decode Y.2.1 pc = .ok (.irem, 1)) (hne : ¬ y = 0) (kk : XJ G d k Y M lv (.int (x - x / y * y) :: st) (pc + 1) Q) : XJ G d k Y M lv (.int y :: .int x :: st) pc Q :=
  fun p e R s m args below meth c H locs cells slots A ls hC hH hl => lv_irem hC.2.1 hC.2.2.1 hd hne (kk p e R s m args below meth c H locs cells slots A ls hC hH hl)
theorem x_ineg {x : Int32} (hd : decode Y.2.1 pc = .ok (.ineg, 1)) (kk : XJ G d k Y M lv (.int (-x) :: st) (pc + 1) Q) : XJ G d k Y M lv (.int x :: st) pc Q :=
  fun p e R s m args below meth c H locs cells slots A ls hC hH hl => lv_ineg hC.2.1 hC.2.2.1 hd (kk p e R s m args below meth c H locs cells slots A ls hC hH hl)
theorem x_ladd {x y : Int64} (hd : decode Y.2.1 pc = .ok (.ladd, 1)) (kk : XJ G d k Y M lv (.long (x + y) :: st) (pc + 1) Q) : XJ G d k Y M lv (.long y :: .long x :: st) pc Q :=
  fun p e R s m args below meth c H locs cells slots A ls hC hH hl => lv_ladd hC.2.1 hC.2.2.1 hd (kk p e R s m args below meth c H locs cells slots A ls hC hH hl)
theorem x_lsub {x y : Int64} (hd : decode Y.2.1 pc = .ok (.lsub, 1)) (kk : XJ G d k Y M lv (.long (x - y) :: st) (pc + 1) Q) : XJ G d k Y M lv (.long y :: .long x :: st) pc Q :=
  fun p e R s m args below meth c H locs cells slots A ls hC hH hl => lv_lsub hC.2.1 hC.2.2.1 hd (kk p e R s m args below meth c H locs cells slots A ls hC hH hl)
theorem x_lmul {x y : Int64} (hd : decode Y.2.1 pc = .ok (.lmul, 1)) (kk : XJ G d k Y M lv (.long (x * y) :: st) (pc + 1) Q) : XJ G d k Y M lv (.long y :: .long x :: st) pc Q :=
  fun p e R s m args below meth c H locs cells slots A ls hC hH hl => lv_lmul hC.2.1 hC.2.2.1 hd (kk p e R s m args below meth c H locs cells slots A ls hC hH hl)
theorem x_land {x y : Int64} (hd : decode Y.2.1 pc = .ok (.land, 1)) (kk : XJ G d k Y M lv (.long (x &&& y) :: st) (pc + 1) Q) : XJ G d k Y M lv (.long y :: .long x :: st) pc Q :=
  fun p e R s m args below meth c H locs cells slots A ls hC hH hl => lv_land hC.2.1 hC.2.2.1 hd (kk p e R s m args below meth c H locs cells slots A ls hC hH hl)
theorem x_lor {x y : Int64} (hd : decode Y.2.1 pc = .ok (.lor, 1)) (kk : XJ G d k Y M lv (.long (x ||| y) :: st) (pc + 1) Q) : XJ G d k Y M lv (.long y :: .long x :: st) pc Q :=
  fun p e R s m args below meth c H locs cells slots A ls hC hH hl => lv_lor hC.2.1 hC.2.2.1 hd (kk p e R s m args below meth c H locs cells slots A ls hC hH hl)
theorem x_ldiv {x y : Int64} (hd : decode Y.2.1 pc = .ok (.ldiv, 1)) (hne : ¬ y = 0) (kk : XJ G d k Y M lv (.long (x / y) :: st) (pc + 1) Q) : XJ G d k Y M lv (.long y :: .long x :: st) pc Q :=
  fun p e R s m args below meth c H locs cells slots A ls hC hH hl => lv_ldiv hC.2.1 hC.2.2.1 hd hne (kk p e R s m args below meth c H locs cells slots A ls hC hH hl)
theorem x_lrem {x y : Int64} (hd : decode Y.2.1 pc = .ok (.lrem, 1)) (hne : ¬ y = 0) (kk : XJ G d k Y M lv (.long (x - x / y * y) :: st) (pc + 1) Q) : XJ G d k Y M lv (.long y :: .long x :: st) pc Q :=
  fun p e R s m args below meth c H locs cells slots A ls hC hH hl => lv_lrem hC.2.1 hC.2.2.1 hd hne (kk p e R s m args below meth c H locs cells slots A ls hC hH hl)
theorem x_lshl {x : Int64} {y : Int32} (hd : decode Y.2.1 pc = .ok (.lshl, 1)) (kk : XJ G d k Y M lv (.long (x <<< (y.toInt64 &&& 63)) :: st) (pc + 1) Q) : XJ G d k Y M lv (.int y :: .long x :: st) pc Q :=
  fun p e R s m args below meth c H locs cells slots A ls hC hH hl => lv_lshl hC.2.1 hC.2.2.1 hd rfl (kk p e R s m args below meth c H locs cells slots A ls hC hH hl)
theorem x_lushr {x : Int64} {y : Int32} (hd : decode Y.2.1 pc = .ok (.lushr, 1)) (kk : XJ G d k Y M lv (.long ((x.toUInt64 >>> (y.toInt64.toUInt64 &&& Int64.toUInt64 63)).toInt64) :: st) (pc + 1) Q) : XJ G d k Y M lv (.int y :: .long x :: st) pc Q :=
  fun p e R s m args below meth c H locs cells slots A ls hC hH hl => lv_lushr hC.2.1 hC.2.2.1 hd rfl (kk p e R s m args below meth c H locs cells slots A ls hC hH hl)
theorem x_lneg {x : Int64} (hd : decode Y.2.1 pc = .ok (.lneg, 1)) (kk : XJ G d k Y M lv (.long (-x) :: st) (pc + 1) Q) : XJ G d k Y M lv (.long x :: st) pc Q :=
  fun p e R s m args below meth c H locs cells slots A ls hC hH hl => lv_lneg hC.2.1 hC.2.2.1 hd (kk p e R s m args below meth c H locs cells slots A ls hC hH hl)
theorem x_lcmp {x y : Int64} (hd : decode Y.2.1 pc = .ok (.lcmp, 1)) (kk : XJ G d k Y M lv (.int (lg_cmp x y) :: st) (pc + 1) Q) : XJ G d k Y M lv (.long y :: .long x :: st) pc Q :=
  fun p e R s m args below meth c H locs cells slots A ls hC hH hl => W.lcmp hC.2.1 hC.2.2.1 hd (kk p e R s m args below meth c H locs cells slots A ls hC hH hl)
theorem x_i2l {x : Int32} (hd : decode Y.2.1 pc = .ok (.i2l, 1)) (kk : XJ G d k Y M lv (.long x.toInt64 :: st) (pc + 1) Q) : XJ G d k Y M lv (.int x :: st) pc Q :=
  fun p e R s m args below meth c H locs cells slots A ls hC hH hl => lv_i2l hC.2.1 hC.2.2.1 hd rfl (kk p e R s m args below meth c H locs cells slots A ls hC hH hl)
theorem x_l2i {x : Int64} (hd : decode Y.2.1 pc = .ok (.l2i, 1)) (kk : XJ G d k Y M lv (.int x.toInt32 :: st) (pc + 1) Q) : XJ G d k Y M lv (.long x :: st) pc Q :=
  fun p e R s m args below meth c H locs cells slots A ls hC hH hl => lv_l2i hC.2.1 hC.2.2.1 hd rfl (kk p e R s m args below meth c H locs cells slots A ls hC hH hl)
theorem x_i2c {x : Int32} (hd : decode Y.2.1 pc = .ok (.i2c, 1)) (kk : XJ G d k Y M lv (.int ((x.toUInt32 % 65536).toInt32) :: st) (pc + 1) Q) : XJ G d k Y M lv (.int x :: st) pc Q :=
  fun p e R s m args below meth c H locs cells slots A ls hC hH hl => lv_i2c hC.2.1 hC.2.2.1 hd rfl (kk p e R s m args below meth c H locs cells slots A ls hC hH hl)
theorem x_i2b {x : Int32} (hd : decode Y.2.1 pc = .ok (.i2b, 1)) (kk : XJ G d k Y M lv (.int x.toInt8.toInt32 :: st) (pc + 1) Q) : XJ G d k Y M lv (.int x :: st) pc Q :=
  fun p e R s m args below meth c H locs cells slots A ls hC hH hl => lv_i2b hC.2.1 hC.2.2.1 hd rfl (kk p e R s m args below meth c H locs cells slots A ls hC hH hl)
theorem x_dup {v : Value} (hd : decode Y.2.1 pc = .ok (.dup, 1)) (hv : v.category = 1) (kk : XJ G d k Y M lv (v :: v :: st) (pc + 1) Q) : XJ G d k Y M lv (v :: st) pc Q :=
  fun p e R s m args below meth c H locs cells slots A ls hC hH hl => lv_dup hC.2.1 hC.2.2.1 hd hv (kk p e R s m args below meth c H locs cells slots A ls hC hH hl)
theorem x_dup_x1 {v w : Value} (hd : decode Y.2.1 pc = .ok (.dup_x1, 1)) (hv : v.category = 1) (hw : w.category = 1) (kk : XJ G d k Y M lv (v :: w :: v :: st) (pc + 1) Q) : XJ G d k Y M lv (v :: w :: st) pc Q :=
  fun p e R s m args below meth c H locs cells slots A ls hC hH hl => lv_dup_x1 hC.2.1 hC.2.2.1 hd hv hw (kk p e R s m args below meth c H locs cells slots A ls hC hH hl)
theorem x_pop {v : Value} (hd : decode Y.2.1 pc = .ok (.pop, 1)) (hv : v.category = 1) (kk : XJ G d k Y M lv st (pc + 1) Q) : XJ G d k Y M lv (v :: st) pc Q :=
  fun p e R s m args below meth c H locs cells slots A ls hC hH hl => lv_pop hC.2.1 hC.2.2.1 hd hv (kk p e R s m args below meth c H locs cells slots A ls hC hH hl)
theorem x_goto {off : Int} {tgt : Nat} (hd : decode Y.2.1 pc = .ok (.goto off, 3)) (ht : (pc : Int) + off = (tgt : Int)) (kk : XJ G d k Y M lv st tgt Q) : XJ G d k Y M lv st pc Q :=
  fun p e R s m args below meth c H locs cells slots A ls hC hH hl => lv_goto hC.2.1 hC.2.2.1 hd ht (kk p e R s m args below meth c H locs cells slots A ls hC hH hl)
theorem x_if_eq {x : Int32} {off : Int} {tgt : Nat} (hd : decode Y.2.1 pc = .ok (.ifCond .eq off, 3)) (ht : (pc : Int) + off = (tgt : Int)) (kt : (x = 0) → XJ G d k Y M lv st tgt Q) (kf : ¬ (x = 0) → XJ G d k Y M lv st (pc + 3) Q) : XJ G d k Y M lv (.int x :: st) pc Q :=
  fun p e R s m args below meth c H locs cells slots A ls hC hH hl => lv_if_eq hC.2.1 hC.2.2.1 hd ht (fun z => kt z p e R s m args below meth c H locs cells slots A ls hC hH hl) (fun z => kf z p e R s m args below meth c H locs cells slots A ls hC hH hl)
theorem x_icmp_eq {x y : Int32} {off : Int} {tgt : Nat} (hd : decode Y.2.1 pc = .ok (.if_icmp .eq off, 3)) (ht : (pc : Int) + off = (tgt : Int)) (kt : (x = y) → XJ G d k Y M lv st tgt Q) (kf : ¬ (x = y) → XJ G d k Y M lv st (pc + 3) Q) : XJ G d k Y M lv (.int y :: .int x :: st) pc Q :=
  fun p e R s m args below meth c H locs cells slots A ls hC hH hl => lv_icmp_eq hC.2.1 hC.2.2.1 hd ht (fun z => kt z p e R s m args below meth c H locs cells slots A ls hC hH hl) (fun z => kf z p e R s m args below meth c H locs cells slots A ls hC hH hl)
theorem x_if_ne {x : Int32} {off : Int} {tgt : Nat} (hd : decode Y.2.1 pc = .ok (.ifCond .ne off, 3)) (ht : (pc : Int) + off = (tgt : Int)) (kt : (¬ x = 0) → XJ G d k Y M lv st tgt Q) (kf : (x = 0) → XJ G d k Y M lv st (pc + 3) Q) : XJ G d k Y M lv (.int x :: st) pc Q :=
  fun p e R s m args below meth c H locs cells slots A ls hC hH hl => lv_if_ne hC.2.1 hC.2.2.1 hd ht (fun z => kt z p e R s m args below meth c H locs cells slots A ls hC hH hl) (fun z => kf z p e R s m args below meth c H locs cells slots A ls hC hH hl)
theorem x_icmp_ne {x y : Int32} {off : Int} {tgt : Nat} (hd : decode Y.2.1 pc = .ok (.if_icmp .ne off, 3)) (ht : (pc : Int) + off = (tgt : Int)) (kt : (¬ x = y) → XJ G d k Y M lv st tgt Q) (kf : (x = y) → XJ G d k Y M lv st (pc + 3) Q) : XJ G d k Y M lv (.int y :: .int x :: st) pc Q :=
  fun p e R s m args below meth c H locs cells slots A ls hC hH hl => lv_icmp_ne hC.2.1 hC.2.2.1 hd ht (fun z => kt z p e R s m args below meth c H locs cells slots A ls hC hH hl) (fun z => kf z p e R s m args below meth c H locs cells slots A ls hC hH hl)
theorem x_if_lt {x : Int32} {off : Int} {tgt : Nat} (hd : decode Y.2.1 pc = .ok (.ifCond .lt off, 3)) (ht : (pc : Int) + off = (tgt : Int)) (kt : (x < 0) → XJ G d k Y M lv st tgt Q) (kf : ¬ (x < 0) → XJ G d k Y M lv st (pc + 3) Q) : XJ G d k Y M lv (.int x :: st) pc Q :=
  fun p e R s m args below meth c H locs cells slots A ls hC hH hl => lv_if_lt hC.2.1 hC.2.2.1 hd ht (fun z => kt z p e R s m args below meth c H locs cells slots A ls hC hH hl) (fun z => kf z p e R s m args below meth c H locs cells slots A ls hC hH hl)
theorem x_icmp_lt {x y : Int32} {off : Int} {tgt : Nat} (hd : decode Y.2.1 pc = .ok (.if_icmp .lt off, 3)) (ht : (pc : Int) + off = (tgt : Int)) (kt : (x < y) → XJ G d k Y M lv st tgt Q) (kf : ¬ (x < y) → XJ G d k Y M lv st (pc + 3) Q) : XJ G d k Y M lv (.int y :: .int x :: st) pc Q :=
  fun p e R s m args below meth c H locs cells slots A ls hC hH hl => lv_icmp_lt hC.2.1 hC.2.2.1 hd ht (fun z => kt z p e R s m args below meth c H locs cells slots A ls hC hH hl) (fun z => kf z p e R s m args below meth c H locs cells slots A ls hC hH hl)
theorem x_if_ge {x : Int32} {off : Int} {tgt : Nat} (hd : decode Y.2.1 pc = .ok (.ifCond .ge off, 3)) (ht : (pc : Int) + off = (tgt : Int)) (kt : (0 ≤ x) → XJ G d k Y M lv st tgt Q) (kf : ¬ (0 ≤ x) → XJ G d k Y M lv st (pc + 3) Q) : XJ G d k Y M lv (.int x :: st) pc Q :=
  fun p e R s m args below meth c H locs cells slots A ls hC hH hl => lv_if_ge hC.2.1 hC.2.2.1 hd ht (fun z => kt z p e R s m args below meth c H locs cells slots A ls hC hH hl) (fun z => kf z p e R s m args below meth c H locs cells slots A ls hC hH hl)
theorem x_icmp_ge {x y : Int32} {off : Int} {tgt : Nat} (hd : decode Y.2.1 pc = .ok (.if_icmp .ge off, 3)) (ht : (pc : Int) + off = (tgt : Int)) (kt : (y ≤ x) → XJ G d k Y M lv st tgt Q) (kf : ¬ (y ≤ x) → XJ G d k Y M lv st (pc + 3) Q) : XJ G d k Y M lv (.int y :: .int x :: st) pc Q :=
  fun p e R s m args below meth c H locs cells slots A ls hC hH hl => lv_icmp_ge hC.2.1 hC.2.2.1 hd ht (fun z => kt z p e R s m args below meth c H locs cells slots A ls hC hH hl) (fun z => kf z p e R s m args below meth c H locs cells slots A ls hC hH hl)
theorem x_if_gt {x : Int32} {off : Int} {tgt : Nat} (hd : decode Y.2.1 pc = .ok (.ifCond .gt off, 3)) (ht : (pc : Int) + off = (tgt : Int)) (kt : (0 < x) → XJ G d k Y M lv st tgt Q) (kf : ¬ (0 < x) → XJ G d k Y M lv st (pc + 3) Q) : XJ G d k Y M lv (.int x :: st) pc Q :=
  fun p e R s m args below meth c H locs cells slots A ls hC hH hl => lv_if_gt hC.2.1 hC.2.2.1 hd ht (fun z => kt z p e R s m args below meth c H locs cells slots A ls hC hH hl) (fun z => kf z p e R s m args below meth c H locs cells slots A ls hC hH hl)
theorem x_icmp_gt {x y : Int32} {off : Int} {tgt : Nat} (hd : decode Y.2.1 pc = .ok (.if_icmp .gt off, 3)) (ht : (pc : Int) + off = (tgt : Int)) (kt : (y < x) → XJ G d k Y M lv st tgt Q) (kf : ¬ (y < x) → XJ G d k Y M lv st (pc + 3) Q) : XJ G d k Y M lv (.int y :: .int x :: st) pc Q :=
  fun p e R s m args below meth c H locs cells slots A ls hC hH hl => lv_icmp_gt hC.2.1 hC.2.2.1 hd ht (fun z => kt z p e R s m args below meth c H locs cells slots A ls hC hH hl) (fun z => kf z p e R s m args below meth c H locs cells slots A ls hC hH hl)
theorem x_if_le {x : Int32} {off : Int} {tgt : Nat} (hd : decode Y.2.1 pc = .ok (.ifCond .le off, 3)) (ht : (pc : Int) + off = (tgt : Int)) (kt : (x ≤ 0) → XJ G d k Y M lv st tgt Q) (kf : ¬ (x ≤ 0) → XJ G d k Y M lv st (pc + 3) Q) : XJ G d k Y M lv (.int x :: st) pc Q :=
  fun p e R s m args below meth c H locs cells slots A ls hC hH hl => lv_if_le hC.2.1 hC.2.2.1 hd ht (fun z => kt z p e R s m args below meth c H locs cells slots A ls hC hH hl) (fun z => kf z p e R s m args below meth c H locs cells slots A ls hC hH hl)
theorem x_icmp_le {x y : Int32} {off : Int} {tgt : Nat} (hd : decode Y.2.1 pc = .ok (.if_icmp .le off, 3)) (ht : (pc : Int) + off = (tgt : Int)) (kt : (x ≤ y) → XJ G d k Y M lv st tgt Q) (kf : ¬ (x ≤ y) → XJ G d k Y M lv st (pc + 3) Q) : XJ G d k Y M lv (.int y :: .int x :: st) pc Q :=
  fun p e R s m args below meth c H locs cells slots A ls hC hH hl => lv_icmp_le hC.2.1 hC.2.2.1 hd ht (fun z => kt z p e R s m args below meth c H locs cells slots A ls hC hH hl) (fun z => kf z p e R s m args below meth c H locs cells slots A ls hC hH hl)
end XR
end
section
/-! ends of a method, the contract out of the body's walk, calls -/
theorem CT.of {G : Gam} {d : Nat} {k : Nat × Nat} {Y : MR} {av : List Value} {M : Mem} {Q : Option Value → Mem → Prop} (hy : plainName Y.1.cls = true) (hn : (lg_sl av).length ≤ Y.2.2.1) (h : XJ G d k Y M (lv_args 0 av) [] 0 Q) : CT G d k Y av M Q := by
  intro sz
  refine Met.ofW (cc := Y.2.1) (maxL := Y.2.2.1) (ret := Y.2.2.2) hy rfl ?_
  intro p e s m args below meth c s₁ B hml hv
  obtain ⟨rfl, hB, hW, hO, hsz, hR⟩ := hv
  have hown : s.vm.findClass Y.1.cls = some m.cls := findClass_of_methodNamed B.named
  have hl := lv_entry av (n := Y.2.2.1) hn
  rw [lg_entry_eq]
  exact h p e (rmX d k) s m av.toArray below meth c s.heap [] 0 0 (AX M sz) _ ⟨hB, B.exec, B.bytes, B.returns, hml, hown, B.notSynchronized, (name_of_methodNamed B.named B.method).1, hW, rfl, rfl, fun q hq => Or.inr (by rw [← hsz]; exact hq), fun q hq => by
      rcases hq with ⟨c, hc⟩ | hq
      · exact (hR q c hc).1
      · exact Nat.le_trans (by rw [← hsz]; exact hO.1) hq, hO⟩ ⟨hR, fun a c hc => Or.inl ⟨c, hc⟩, va_S.rf, by simp [rmX], by simp [rmX]⟩ hl
theorem CT.ofF {G : Gam} {d : Nat} {k : Nat × Nat} {Y : MR} {av : List Value} {M : Mem} {Q : Option Value → Mem → Prop} (hy : plainFor Y.1 = true) (hn : (lg_sl av).length ≤ Y.2.2.1) (h : XJ G d k Y M (lv_args 0 av) [] 0 Q) : CT G d k Y av M Q := by
  intro sz
  refine va_MetF (cc := Y.2.1) (maxL := Y.2.2.1) (ret := Y.2.2.2) hy rfl ?_
  intro p e s m args below meth c s₁ B hml hv
  obtain ⟨rfl, hB, hW, hO, hsz, hR⟩ := hv
  have hown : s.vm.findClass Y.1.cls = some m.cls := findClass_of_methodNamed B.named
  have hl := lv_entry av (n := Y.2.2.1) hn
  rw [lg_entry_eq]
  exact h p e (rmX d k) s m av.toArray below meth c s.heap [] 0 0 (AX M sz) _ ⟨hB, B.exec, B.bytes, B.returns, hml, hown, B.notSynchronized, (name_of_methodNamed B.named B.method).1, hW, rfl, rfl, fun q hq => Or.inr (by rw [← hsz]; exact hq), fun q hq => by
      rcases hq with ⟨c, hc⟩ | hq
      · exact (hR q c hc).1
      · exact Nat.le_trans (by rw [← hsz]; exact hO.1) hq, hO⟩ ⟨hR, fun a c hc => Or.inl ⟨c, hc⟩, va_S.rf, by simp [rmX], by simp [rmX]⟩ hl
section XE
variable {G : Gam} {d : Nat} {k : Nat × Nat} {Y : MR} {M : Mem} {lv : Lv} {st : List Value} {pc : Nat} {Q : Option Value → Mem → Prop}
theorem x_ireturn {ty : FieldType} {v : Int32} (hd : decode Y.2.1 pc = .ok (.ireturn, 1)) (hr : Y.2.2.2 = some ty) (hn : narrow ty (.int v) = .int v) (hq : Q (some (.int v)) M) : XJ G d k Y M lv [.int v] pc Q := by
  intro p e R s m args below meth c H locs cells slots A ls hC hH hl
  refine W.widen (k := R.cells) (n := R.slots) (Nat.le_trans (Nat.le_add_right _ _) hH.2.2.2.1) (Nat.le_trans (Nat.le_add_right _ _) hH.2.2.2.2) ?_
  exact W.zret hC.2.1 hC.2.2.1 (hC.2.2.2.1.trans hr) hn (fun t ht _ => ⟨⟨_, M, rfl, hq, by rw [ht]; exact hH.1, hH.2.1⟩, hH.2.2.1.F ht⟩) hH.2.2.1.2.2 hd hC.2.2.2.2.2.2.1
theorem x_lreturn {v : Int64} (hd : decode Y.2.1 pc = .ok (.lreturn, 1)) (hr : Y.2.2.2 = some .long) (hq : Q (some (.long v)) M) : XJ G d k Y M lv [.long v] pc Q := by
  intro p e R s m args below meth c H locs cells slots A ls hC hH hl
  refine W.widen (k := R.cells) (n := R.slots) (Nat.le_trans (Nat.le_add_right _ _) hH.2.2.2.1) (Nat.le_trans (Nat.le_add_right _ _) hH.2.2.2.2) ?_
  exact W.lret hC.2.1 hC.2.2.1 (hC.2.2.2.1.trans hr) (fun t ht _ => ⟨⟨_, M, rfl, hq, by rw [ht]; exact hH.1, hH.2.1⟩, hH.2.2.1.F ht⟩) hH.2.2.1.2.2 hd hC.2.2.2.2.2.2.1
theorem x_return (hd : decode Y.2.1 pc = .ok (.return_, 1)) (hr : Y.2.2.2 = none) (hq : Q none M) : XJ G d k Y M lv [] pc Q := by
  intro p e R s m args below meth c H locs cells slots A ls hC hH hl
  refine W.widen (k := R.cells) (n := R.slots) (Nat.le_trans (Nat.le_add_right _ _) hH.2.2.2.1) (Nat.le_trans (Nat.le_add_right _ _) hH.2.2.2.2) ?_
  exact W.vret hC.2.1 hC.2.2.1 (hC.2.2.2.1.trans hr) (fun t ht _ => ⟨⟨_, M, rfl, hq, by rw [ht]; exact hH.1, hH.2.1⟩, hH.2.2.1.F ht⟩) hH.2.2.1.2.2 hd hC.2.2.2.2.2.2.1
theorem x_areturn {ty : FieldType} {v : Value} (hd : decode Y.2.1 pc = .ok (.areturn, 1)) (hr : Y.2.2.2 = some ty) (hrt : (∃ n, ty = .object n) ∨ ∃ t, ty = .array t) (hv : v = .null ∨ ∃ a, v = .ref a) (hq : Q (some v) M) : XJ G d k Y M lv [v] pc Q := by
  intro p e R s m args below meth c H locs cells slots A ls hC hH hl
  refine W.widen (k := R.cells) (n := R.slots) (Nat.le_trans (Nat.le_add_right _ _) hH.2.2.2.1) (Nat.le_trans (Nat.le_add_right _ _) hH.2.2.2.2) ?_
  exact W.aret hC.2.1 hC.2.2.1 (hC.2.2.2.1.trans hr) hrt hv (fun t ht _ => ⟨⟨_, M, rfl, hq, by rw [ht]; exact hH.1, hH.2.1⟩, hH.2.2.1.F ht⟩) hH.2.2.1.2.2 hd hC.2.2.2.2.2.2.1
/-- fewer locals -/
theorem x_loc (l1 : Lv) (h : lle l1 lv) (kk : XJ G d k Y M l1 st pc Q) : XJ G d k Y M lv st pc Q :=
  fun p e R s m args below meth c H locs cells slots A ls hC hH hl => kk p e R s m args below meth c H locs cells slots A ls hC hH (lle_has h hl)
/-- fewer cells in sight -/
theorem x_mem {M1 : Mem} (h : ∀ a c, M1 a = some c → M a = some c) (kk : XJ G d k Y M1 lv st pc Q) : XJ G d k Y M lv st pc Q :=
  fun p e R s m args below meth c H locs cells slots A ls hC hH hl => kk p e R s m args below meth c H locs cells slots A ls hC ⟨fun a c z => hH.1 a c (h a c z), fun a c z => hH.2.1 a c (h a c z), hH.2.2⟩ hl
/-- less room -/
theorem x_room {k1 : Nat × Nat} (h1 : k1.1 ≤ k.1) (h2 : k1.2 ≤ k.2) (kk : XJ G d k1 Y M lv st pc Q) : XJ G d k Y M lv st pc Q :=
  fun p e R s m args below meth c H locs cells slots A ls hC hH hl => kk p e R s m args below meth c H locs cells slots A ls hC ⟨hH.1, hH.2.1, hH.2.2.1, Nat.le_trans (Nat.add_le_add_left h1 _) hH.2.2.2.1, Nat.le_trans (Nat.add_le_add_left h2 _) hH.2.2.2.2⟩ hl
end XE
/-! calls -/
def rpush (r : Option Value) (st : List Value) : List Value := match r with
  | none => st
  | some v => v :: st
theorem rpush_eq (r : Option Value) (st : List Value) : r.toList ++ st = rpush r st := by cases r <;> rfl
def catS : List Value → Nat
  | [] => 0
  | v :: t => v.category + catS t
theorem catS_le : ∀ {st : List Value}, (st.map fun v => v.category).sum = catS st
  | [] => rfl
  | v :: t => by rw [List.map_cons, List.sum_cons, catS_le]; rfl
theorem catS_8 {st : List Value} (h : Nat.ble (catS st) 8 = true) : (st.map fun v => v.category).sum ≤ 8 := by rw [catS_le]; exact Nat.le_of_ble_eq_true h
def LkC (Y2 : MR) (n : Nat) : Prop := Cond.code Y2.1 Y2.2.1 Y2.2.2.1 Y2.2.2.2 ∈ lw_tbl ∧ Cond.initialized Y2.1.cls ∈ lw_tbl ∧ (Y2.1.cls ≠ "java/lang/invoke/MethodHandle" ∧ Y2.1.cls ≠ "java/lang/invoke/VarHandle") ∧ (parseMethodDescriptor Y2.1.desc).map (fun d => d.parameters.length) = some n ∧ Y2.2.2.1 ≤ 45
def LkS (own : String) (idx : Nat) (Y2 : MR) (n : Nat) : Prop := LkC Y2 n ∧ Cond.static Y2.1 ∈ lw_tbl ∧ Cond.methodLink own idx Y2.1 ∈ lw_tbl
def LkV (own : String) (idx : Nat) (Y2 : MR) (n : Nat) : Prop := LkC Y2 n ∧ Cond.instanceMethod Y2.1 ∈ lw_tbl ∧ Cond.selects Y2.1.cls Y2.1 Y2.1 ∈ lw_tbl ∧ Cond.methodLink own idx Y2.1 ∈ lw_tbl
def LkI (own : String) (idx : Nat) (Y2 : MR) (n : Nat) : Prop := LkC Y2 n ∧ Cond.instanceMethod Y2.1 ∈ lw_tbl ∧ Y2.1.name = "<init>" ∧ Cond.methodLink own idx Y2.1 ∈ lw_tbl
def LkSN (own : String) (idx : Nat) (Y2 : MR) (n : Nat) : Prop := LkC Y2 n ∧ Cond.static Y2.1 ∈ lw_tbl ∧ ∃ host, Cond.methodLinkNest own idx Y2.1 host ∈ lw_tbl
def LkIN (own : String) (idx : Nat) (Y2 : MR) (n : Nat) : Prop := LkC Y2 n ∧ Cond.instanceMethod Y2.1 ∈ lw_tbl ∧ Y2.1.name = "<init>" ∧ ∃ host, Cond.methodLinkNest own idx Y2.1 host ∈ lw_tbl
theorem gw_code {y : MethodName} {b : ByteArray} {n : Nat} {r : Option FieldType} : goodWord (.code y b n r) = true := rfl
section XK
variable {G : Gam} {d : Nat} {k : Nat × Nat} {Y : MR} {M : Mem} {lv : Lv} {pc : Nat} {Q : Option Value → Mem → Prop} {rest : List Value} {mc ms : Nat}
theorem x_ofRun {st0 : List Value} {a : Array Value} {p : Program} {e : Env} {R : Room} {s : State} {m : MethodId} {args : Array Value} {below : List Frame} {meth : Method} {c : Code} {H : Heap} {locs : List Loc} {cells slots : Nat} {A : Nat → Prop} {ls : Array Slot}
    (hC : XC G d Y p R s m meth c A) (hH : XH G k M R s A H locs cells slots) (hl : lv_has ls Y.2.2.1 lv) (hk : mc ≤ k.1 ∧ ms ≤ k.2)
    (hr : va_Run p G.1 e R s m args below meth c H locs cells slots mc ms (F0 m pc ls st0) rest (QX G (AX M H.size) (fun r M' => XJ G d (k.1 - mc, k.2 - ms) Y M' lv (rpush r rest) (pc + 3) Q) a) (AX M H.size)) :
    W p G.1 e R s m args below meth c H locs cells slots (MQ below (QX G A Q) args s R.cells R.slots A) (F0 m pc ls st0) := by
  have hA : ∀ q, AX M H.size q → A q := fun q hq => by
    rcases hq with ⟨c, hc⟩ | hq
    · exact hH.2.1 q c hc
    · exact hC.2.2.2.2.2.2.2.2.2.2.2.1 q (Nat.le_trans hH.2.2.1.1 hq)
  intro T hT X
  obtain ⟨v, st₀, t, T', L, h0, X', hL, e1, e2, ⟨⟨r, M', hr, hq, hRel, hdom⟩, hF⟩, hgo⟩ := hr T hT X
  cases hr
  have hz : H.size ≤ T'.heap.size := by rw [e1, ← h0]; exact hF.1
  rw [← rpush_eq] at hq
  obtain ⟨t2, a1, b1⟩ := hq p e R s m args below meth c T'.heap (locs ++ L) (cells + mc) (slots + ms) A ls hC ⟨by rw [e1]; exact hRel, fun a c z => hA a (hdom a c z), ⟨Nat.le_trans hH.2.2.1.1 hz, fun q h1 h2 => by
      have h3 := hF.2 q (by rw [h0]; exact Nat.lt_of_lt_of_le h1 hH.2.2.1.1) (fun z => h2 (hA q z))
      rw [e1, h3, h0]
      exact hH.2.2.1.2.1 q h1 h2, fun q hq => by
      rcases List.mem_append.mp hq with h | h
      · exact hH.2.2.1.2.2 q h
      · exact hA _ (hL q h)⟩, (by have := hH.2.2.2.1; show cells + mc + (k.1 - mc) ≤ _; omega), (by have := hH.2.2.2.2; show slots + ms + (k.2 - ms) ≤ _; omega)⟩ hl T' rfl X'
  exact ⟨t2, hgo t2 a1, b1⟩
theorem x_pre {p : Program} {R : Room} {s : State} {m : MethodId} {meth : Method} {c : Code} {A : Nat → Prop} {H : Heap} {locs : List Loc} {cells slots : Nat} (hC : XC G d Y p R s m meth c A) (hH : XH G k M R s A H locs cells slots) (As : List Value) :
    PreS s H (va_Pc As (PX G M H.size)) As :=
  ⟨fun _ _ _ _ h => ⟨h.1, h.2⟩, fun U hU hW => ⟨rfl, hC.1, State.WarmedH.trans hC.2.2.2.2.2.2.2.2.1 hW, by rw [hU]; exact oldX hC.2.2.2.2.2.2.2.2.2.2.2.2.2 hH.2.2.1 hC.2.2.2.2.2.2.2.2.2.2.2.2.1, by rw [hU], by rw [hU]; exact hH.1⟩⟩
theorem x_ws {s : State} {Y2 : MR} {n : Nat} (hL : LkC Y2 n) (hB : BaseOK G) (hW : G.2.1.WarmedH s.vm) : ∀ w ∈ ([.code Y2.1 Y2.2.1 Y2.2.2.1 Y2.2.2.2] : List Cond), ∀ (a' : Array Value) (U : State), s.WarmedH U.vm → w.before a' U = true := by
  intro w hw a' U hU
  rw [List.mem_singleton.mp hw]
  exact tb_good hB hL.1 gw_code (State.WarmedH.trans hW hU)
theorem x_cb {p : Program} {R : Room} {s : State} {args : Array Value} {m : MethodId} {meth : Method} {c : Code} {A : Nat → Prop} {Y2 : MR} {n idx : Nat} (hC : XC G (d + 1) Y p R s m meth c A) (hL : LkC Y2 n) (hl : Cond.methodLink Y.1.cls idx Y2.1 ∈ lw_tbl) :
    CallB R s args Y.1.cls idx Y2.1 Y2.2.1 Y2.2.2.1 Y2.2.2.2 [.code Y2.1 Y2.2.1 Y2.2.2.1 Y2.2.2.2] (rmX d (mc, ms)) mc ms n := by
  obtain ⟨hB, -, -, -, -, -, -, -, hW, hfr, hlo, -⟩ := hC
  refine ⟨rfl, rfl, by rw [hfr]; exact Nat.le_refl _, ?_, x_ws hL hB hW, List.mem_singleton.mpr rfl, tb_good hB hL.1 gw_code hW, tb_good hB hL.2.1 rfl hW, hL.2.2.1, fun sig h => ?_, tb_good hB hl rfl hW⟩
  · rw [hlo]; have := hL.2.2.2.2; show 8 + (Y2.2.2.1 + 11) + 64 * d ≤ 64 * (d + 1); omega
  · have h2 := hL.2.2.2.1
    rw [h] at h2
    exact (Option.some.inj h2).symm
theorem x_cn {p : Program} {R : Room} {s : State} {args : Array Value} {m : MethodId} {meth : Method} {c : Code} {A : Nat → Prop} {Y2 : MR} {n idx : Nat} {host : String} (hC : XC G (d + 1) Y p R s m meth c A) (hL : LkC Y2 n) (hl : Cond.methodLinkNest Y.1.cls idx Y2.1 host ∈ lw_tbl) :
    va_CN R s args Y.1.cls idx Y2.1 host Y2.2.1 Y2.2.2.1 Y2.2.2.2 [.code Y2.1 Y2.2.1 Y2.2.2.1 Y2.2.2.2] (rmX d (mc, ms)) mc ms n := by
  obtain ⟨hB, -, -, -, -, -, -, -, hW, hfr, hlo, -⟩ := hC
  refine ⟨⟨rfl, rfl, by rw [hfr]; exact Nat.le_refl _, ?_, x_ws hL hB hW, List.mem_singleton.mpr rfl⟩, tb_good hB hL.1 gw_code hW, tb_good hB hL.2.1 rfl hW, hL.2.2.1, fun sig h => ?_, va_Nw.use rfl (tb_nestM hB hl hW)⟩
  · rw [hlo]; have := hL.2.2.2.2; show 8 + (Y2.2.2.1 + 11) + 64 * d ≤ 64 * (d + 1); omega
  · have h2 := hL.2.2.2.1
    rw [h] at h2
    exact (Option.some.inj h2).symm
theorem x_callS {Y2 : MR} {n idx : Nat} (As : List Value) (hd : decode Y.2.1 pc = .ok (.invokestatic idx, 3)) (hL : LkS Y.1.cls idx Y2 n) (hn : As.length = n) (hs : (rest.map fun v => v.category).sum ≤ 8) (hk : mc ≤ k.1 ∧ ms ≤ k.2) {st0 : List Value} (he : st0 = As.reverse ++ rest)
    (hM : CT G d (mc, ms) Y2 As M (fun r M' => XJ G (d + 1) (k.1 - mc, k.2 - ms) Y M' lv (rpush r rest) (pc + 3) Q)) : XJ G (d + 1) k Y M lv st0 pc Q := by
  intro p e R s m args below meth c H locs cells slots A ls hC hH hl
  refine x_ofRun (rest := rest) hC hH hl hk (a := As.toArray) ?_
  exact va_runS (As := As) (rest := rest) ⟨hC.2.1, hC.2.2.1, hC.2.2.2.2.1, hC.2.2.2.2.2.1, fun w hw => absurd hw List.not_mem_nil⟩ (Ts := []) (hM H.size) ⟨x_cb hC hL.1 hL.2.2, tb_good hC.1 hL.2.1 rfl hC.2.2.2.2.2.2.2.2.1⟩ (x_pre hC hH As) rfl hn hl.1 he (lv_room hs) hd ⟨Nat.le_trans (Nat.add_le_add_left hk.1 _) hH.2.2.2.1, Nat.le_trans (Nat.add_le_add_left hk.2 _) hH.2.2.2.2⟩
theorem x_callSN {Y2 : MR} {n idx : Nat} (As : List Value) (hd : decode Y.2.1 pc = .ok (.invokestatic idx, 3)) (hL : LkSN Y.1.cls idx Y2 n) (hn : As.length = n) (hs : (rest.map fun v => v.category).sum ≤ 8) (hk : mc ≤ k.1 ∧ ms ≤ k.2) {st0 : List Value} (he : st0 = As.reverse ++ rest)
    (hM : CT G d (mc, ms) Y2 As M (fun r M' => XJ G (d + 1) (k.1 - mc, k.2 - ms) Y M' lv (rpush r rest) (pc + 3) Q)) : XJ G (d + 1) k Y M lv st0 pc Q := by
  intro p e R s m args below meth c H locs cells slots A ls hC hH hl
  refine x_ofRun (rest := rest) hC hH hl hk (a := As.toArray) ?_
  obtain ⟨host, hh⟩ := hL.2.2
  exact va_runSN (As := As) (rest := rest) ⟨hC.2.1, hC.2.2.1, hC.2.2.2.2.1, hC.2.2.2.2.2.1, fun w hw => absurd hw List.not_mem_nil⟩ (Ts := []) (hM H.size) ⟨x_cn hC hL.1 hh, tb_good hC.1 hL.2.1 rfl hC.2.2.2.2.2.2.2.2.1, trivial⟩ (x_pre hC hH As) rfl hn hl.1 he (lv_room hs) hd ⟨Nat.le_trans (Nat.add_le_add_left hk.1 _) hH.2.2.2.1, Nat.le_trans (Nat.add_le_add_left hk.2 _) hH.2.2.2.2⟩
theorem cAt_recv {D : va_G} {tA : Nat → ClassId} {a ci n : Nat} {f : Nat → Value} {H : Heap} {s : State} {q : vw_C} (h : cAt D tA a (ci, n, f) H) (hq : vwCl[ci]? = some q) (hK : va_K D vwCl [] s) : ∃ cell : Cell, H[a]? = some cell ∧ cell.vm.isStatics = false ∧ s.vm.findClass q.1 = some cell.cls := by
  rcases h with ⟨-, q', h1, -, cell, g1, g2, g3, -⟩ | ⟨h1, -⟩
  · cases h1.symm.trans hq
    exact ⟨cell, g1, by rw [g3]; rfl, by rw [g2]; exact (hK.1 ci q hq).2.1⟩
  · have : ci < 14 := (List.getElem?_eq_some_iff.mp hq).1
    exact absurd h1 (by show ¬ 100 ≤ ci; omega)
theorem x_callV {Y2 : MR} {n idx ci sz b : Nat} {f : Nat → Value} {q : vw_C} (As : List Value) (hd : decode Y.2.1 pc = .ok (.invokevirtual idx, 3)) (hL : LkV Y.1.cls idx Y2 n) (hb : M b = some (ci, sz, f)) (hq : vwCl[ci]? = some q) (hqc : q.1 = Y2.1.cls) (hn : As.length = n) (hs : (rest.map fun v => v.category).sum ≤ 8) (hk : mc ≤ k.1 ∧ ms ≤ k.2) {st0 : List Value} (he : st0 = As.reverse ++ .ref b :: rest)
    (hM : CT G d (mc, ms) Y2 (.ref b :: As) M (fun r M' => XJ G (d + 1) (k.1 - mc, k.2 - ms) Y M' lv (rpush r rest) (pc + 3) Q)) : XJ G (d + 1) k Y M lv st0 pc Q := by
  intro p e R s m args below meth c H locs cells slots A ls hC hH hl
  have hW := hC.2.2.2.2.2.2.2.2.1
  refine x_ofRun (rest := rest) hC hH hl hk (a := (Value.ref b :: As).toArray) ?_
  have hp := x_pre hC hH (.ref b :: As)
  have hrc := cAt_recv (hH.1 b _ hb).2 hq (bs_K hC.1 hW)
  rw [hqc] at hrc
  exact va_runV (As := As) (rest := rest) (b := b) ⟨hC.2.1, hC.2.2.1, hC.2.2.2.2.1, hC.2.2.2.2.2.1, fun w hw => absurd hw List.not_mem_nil⟩ (Ts := []) (hM H.size) ⟨x_cb hC hL.1 hL.2.2.2, tb_good hC.1 hL.2.1 rfl hW, tb_good hC.1 hL.2.2.1 rfl hW⟩ ⟨hp.1, hrc, hp.2⟩ rfl hn hl.1 he (lv_room hs) hd ⟨Nat.le_trans (Nat.add_le_add_left hk.1 _) hH.2.2.2.1, Nat.le_trans (Nat.add_le_add_left hk.2 _) hH.2.2.2.2⟩
theorem x_callI {Y2 : MR} {n idx b : Nat} (As : List Value) (hd : decode Y.2.1 pc = .ok (.invokespecial idx, 3)) (hL : LkI Y.1.cls idx Y2 n) (hr : Y2.2.2.2 = none) (hn : As.length = n) (hs : (rest.map fun v => v.category).sum ≤ 8) (hk : mc ≤ k.1 ∧ ms ≤ k.2) {st0 : List Value} (he : st0 = As.reverse ++ .ref b :: rest)
    (hM : CT G d (mc, ms) Y2 (.ref b :: As) M (fun r M' => XJ G (d + 1) (k.1 - mc, k.2 - ms) Y M' lv (rpush r rest) (pc + 3) Q)) : XJ G (d + 1) k Y M lv st0 pc Q := by
  obtain ⟨y, cc, ml, rt⟩ := Y2
  cases hr
  intro p e R s m args below meth c H locs cells slots A ls hC hH hl
  have hW := hC.2.2.2.2.2.2.2.2.1
  refine x_ofRun (rest := rest) hC hH hl hk (a := (Value.ref b :: As).toArray) ?_
  exact va_runI (As := As) (rest := rest) (b := b) ⟨hC.2.1, hC.2.2.1, hC.2.2.2.2.1, hC.2.2.2.2.2.1, fun w hw => absurd hw List.not_mem_nil⟩ (Ts := []) (hM H.size) ⟨x_cb hC hL.1 hL.2.2.2, hL.2.2.1, tb_good hC.1 hL.2.1 rfl hW⟩ (x_pre hC hH (.ref b :: As)) rfl hn hl.1 he (lv_room hs) hd ⟨Nat.le_trans (Nat.add_le_add_left hk.1 _) hH.2.2.2.1, Nat.le_trans (Nat.add_le_add_left hk.2 _) hH.2.2.2.2⟩
theorem x_callIN {Y2 : MR} {n idx b : Nat} (As : List Value) (hd : decode Y.2.1 pc = .ok (.invokespecial idx, 3)) (hL : LkIN Y.1.cls idx Y2 n) (hr : Y2.2.2.2 = none) (hn : As.length = n) (hs : (rest.map fun v => v.category).sum ≤ 8) (hk : mc ≤ k.1 ∧ ms ≤ k.2) {st0 : List Value} (he : st0 = As.reverse ++ .ref b :: rest)
    (hM : CT G d (mc, ms) Y2 (.ref b :: As) M (fun r M' => XJ G (d + 1) (k.1 - mc, k.2 - ms) Y M' lv (rpush r rest) (pc + 3) Q)) : XJ G (d + 1) k Y M lv st0 pc Q := by
  obtain ⟨y, cc, ml, rt⟩ := Y2
  cases hr
  intro p e R s m args below meth c H locs cells slots A ls hC hH hl
  have hW := hC.2.2.2.2.2.2.2.2.1
  refine x_ofRun (rest := rest) hC hH hl hk (a := (Value.ref b :: As).toArray) ?_
  obtain ⟨host, hh⟩ := hL.2.2.2
  exact va_runIN (As := As) (rest := rest) (b := b) ⟨hC.2.1, hC.2.2.1, hC.2.2.2.2.1, hC.2.2.2.2.2.1, fun w hw => absurd hw List.not_mem_nil⟩ (Ts := []) (hM H.size) ⟨x_cn hC hL.1 hh, hL.2.2.1, tb_good hC.1 hL.2.1 rfl hW⟩ (x_pre hC hH (.ref b :: As)) rfl hn hl.1 he (lv_room hs) hd ⟨Nat.le_trans (Nat.add_le_add_left hk.1 _) hH.2.2.2.1, Nat.le_trans (Nat.add_le_add_left hk.2 _) hH.2.2.2.2⟩
end XK
/-- less is asked of the end -/
theorem CT.imp {G : Gam} {d : Nat} {k : Nat × Nat} {Y : MR} {av : List Value} {M : Mem} {Q Q' : Option Value → Mem → Prop} (h : CT G d k Y av M Q) (hq : ∀ r M', Q r M' → Q' r M') : CT G d k Y av M Q' := by
  intro sz
  refine MetFree.mono (h sz) (fun a s z => z) (fun _ _ _ _ _ z => z) (fun a s o t _ z => ?_)
  obtain ⟨⟨⟨r, M', h1, h2, h3⟩, h4⟩, h5⟩ := z
  exact ⟨⟨⟨r, M', h1, hq r M' h2, h3⟩, h4⟩, h5⟩
section XZ
variable {G : Gam} {d : Nat} {k : Nat × Nat} {Y : MR} {M : Mem} {lv : Lv} {pc : Nat} {Q : Option Value → Mem → Prop} {rest : List Value}
theorem x_cS0 {Y2 : MR} {idx : Nat} (hd : decode Y.2.1 pc = .ok (.invokestatic idx, 3)) (hL : LkS Y.1.cls idx Y2 0) (hs : Nat.ble (catS rest) 8 = true) (hM : CT G d (0, 0) Y2 [] M (fun r M' => XJ G (d + 1) k Y M' lv (rpush r rest) (pc + 3) Q)) : XJ G (d + 1) k Y M lv rest pc Q :=
  x_callS [] hd hL rfl (catS_8 hs) ⟨Nat.zero_le _, Nat.zero_le _⟩ rfl hM
theorem x_rS0 {Y2 : MR} {idx mc ms : Nat} (hd : decode Y.2.1 pc = .ok (.invokestatic idx, 3)) (hL : LkS Y.1.cls idx Y2 0) (hs : Nat.ble (catS rest) 8 = true) (hk : mc ≤ k.1 ∧ ms ≤ k.2) (hM : CT G d (mc, ms) Y2 [] M (fun r M' => XJ G (d + 1) (k.1 - mc, k.2 - ms) Y M' lv (rpush r rest) (pc + 3) Q)) : XJ G (d + 1) k Y M lv rest pc Q :=
  x_callS [] hd hL rfl (catS_8 hs) hk rfl hM
theorem x_cSN0 {Y2 : MR} {idx : Nat} (hd : decode Y.2.1 pc = .ok (.invokestatic idx, 3)) (hL : LkSN Y.1.cls idx Y2 0) (hs : Nat.ble (catS rest) 8 = true) (hM : CT G d (0, 0) Y2 [] M (fun r M' => XJ G (d + 1) k Y M' lv (rpush r rest) (pc + 3) Q)) : XJ G (d + 1) k Y M lv rest pc Q :=
  x_callSN [] hd hL rfl (catS_8 hs) ⟨Nat.zero_le _, Nat.zero_le _⟩ rfl hM
theorem x_rSN0 {Y2 : MR} {idx mc ms : Nat} (hd : decode Y.2.1 pc = .ok (.invokestatic idx, 3)) (hL : LkSN Y.1.cls idx Y2 0) (hs : Nat.ble (catS rest) 8 = true) (hk : mc ≤ k.1 ∧ ms ≤ k.2) (hM : CT G d (mc, ms) Y2 [] M (fun r M' => XJ G (d + 1) (k.1 - mc, k.2 - ms) Y M' lv (rpush r rest) (pc + 3) Q)) : XJ G (d + 1) k Y M lv rest pc Q :=
  x_callSN [] hd hL rfl (catS_8 hs) hk rfl hM
theorem x_cV0 {Y2 : MR} {idx : Nat} {b : Nat} {ci sz : Nat} {f : Nat → Value} {q : vw_C} (hd : decode Y.2.1 pc = .ok (.invokevirtual idx, 3)) (hL : LkV Y.1.cls idx Y2 0) (hb : M b = some (ci, sz, f)) (hq : vwCl[ci]? = some q) (hqc : q.1 = Y2.1.cls) (hs : Nat.ble (catS rest) 8 = true) (hM : CT G d (0, 0) Y2 (.ref b :: []) M (fun r M' => XJ G (d + 1) k Y M' lv (rpush r rest) (pc + 3) Q)) : XJ G (d + 1) k Y M lv (.ref b :: rest) pc Q :=
  x_callV [] hd hL hb hq hqc rfl (catS_8 hs) ⟨Nat.zero_le _, Nat.zero_le _⟩ rfl hM
theorem x_rV0 {Y2 : MR} {idx mc ms : Nat} {b : Nat} {ci sz : Nat} {f : Nat → Value} {q : vw_C} (hd : decode Y.2.1 pc = .ok (.invokevirtual idx, 3)) (hL : LkV Y.1.cls idx Y2 0) (hb : M b = some (ci, sz, f)) (hq : vwCl[ci]? = some q) (hqc : q.1 = Y2.1.cls) (hs : Nat.ble (catS rest) 8 = true) (hk : mc ≤ k.1 ∧ ms ≤ k.2) (hM : CT G d (mc, ms) Y2 (.ref b :: []) M (fun r M' => XJ G (d + 1) (k.1 - mc, k.2 - ms) Y M' lv (rpush r rest) (pc + 3) Q)) : XJ G (d + 1) k Y M lv (.ref b :: rest) pc Q :=
  x_callV [] hd hL hb hq hqc rfl (catS_8 hs) hk rfl hM
theorem x_cI0 {Y2 : MR} {idx : Nat} {b : Nat} (hd : decode Y.2.1 pc = .ok (.invokespecial idx, 3)) (hL : LkI Y.1.cls idx Y2 0) (hr : Y2.2.2.2 = none) (hs : Nat.ble (catS rest) 8 = true) (hM : CT G d (0, 0) Y2 (.ref b :: []) M (fun r M' => XJ G (d + 1) k Y M' lv (rpush r rest) (pc + 3) Q)) : XJ G (d + 1) k Y M lv (.ref b :: rest) pc Q :=
  x_callI [] hd hL hr rfl (catS_8 hs) ⟨Nat.zero_le _, Nat.zero_le _⟩ rfl hM
theorem x_rI0 {Y2 : MR} {idx mc ms : Nat} {b : Nat} (hd : decode Y.2.1 pc = .ok (.invokespecial idx, 3)) (hL : LkI Y.1.cls idx Y2 0) (hr : Y2.2.2.2 = none) (hs : Nat.ble (catS rest) 8 = true) (hk : mc ≤ k.1 ∧ ms ≤ k.2) (hM : CT G d (mc, ms) Y2 (.ref b :: []) M (fun r M' => XJ G (d + 1) (k.1 - mc, k.2 - ms) Y M' lv (rpush r rest) (pc + 3) Q)) : XJ G (d + 1) k Y M lv (.ref b :: rest) pc Q :=
  x_callI [] hd hL hr rfl (catS_8 hs) hk rfl hM
theorem x_cIN0 {Y2 : MR} {idx : Nat} {b : Nat} (hd : decode Y.2.1 pc = .ok (.invokespecial idx, 3)) (hL : LkIN Y.1.cls idx Y2 0) (hr : Y2.2.2.2 = none) (hs : Nat.ble (catS rest) 8 = true) (hM : CT G d (0, 0) Y2 (.ref b :: []) M (fun r M' => XJ G (d + 1) k Y M' lv (rpush r rest) (pc + 3) Q)) : XJ G (d + 1) k Y M lv (.ref b :: rest) pc Q :=
  x_callIN [] hd hL hr rfl (catS_8 hs) ⟨Nat.zero_le _, Nat.zero_le _⟩ rfl hM
theorem x_rIN0 {Y2 : MR} {idx mc ms : Nat} {b : Nat} (hd : decode Y.2.1 pc = .ok (.invokespecial idx, 3)) (hL : LkIN Y.1.cls idx Y2 0) (hr : Y2.2.2.2 = none) (hs : Nat.ble (catS rest) 8 = true) (hk : mc ≤ k.1 ∧ ms ≤ k.2) (hM : CT G d (mc, ms) Y2 (.ref b :: []) M (fun r M' => XJ G (d + 1) (k.1 - mc, k.2 - ms) Y M' lv (rpush r rest) (pc + 3) Q)) : XJ G (d + 1) k Y M lv (.ref b :: rest) pc Q :=
  x_callIN [] hd hL hr rfl (catS_8 hs) hk rfl hM
theorem x_cS1 {Y2 : MR} {idx : Nat} {a1 : Value} (hd : decode Y.2.1 pc = .ok (.invokestatic idx, 3)) (hL : LkS Y.1.cls idx Y2 1) (hs : Nat.ble (catS rest) 8 = true) (hM : CT G d (0, 0) Y2 [a1] M (fun r M' => XJ G (d + 1) k Y M' lv (rpush r rest) (pc + 3) Q)) : XJ G (d + 1) k Y M lv (a1 :: rest) pc Q :=
  x_callS [a1] hd hL rfl (catS_8 hs) ⟨Nat.zero_le _, Nat.zero_le _⟩ rfl hM
theorem x_rS1 {Y2 : MR} {idx mc ms : Nat} {a1 : Value} (hd : decode Y.2.1 pc = .ok (.invokestatic idx, 3)) (hL : LkS Y.1.cls idx Y2 1) (hs : Nat.ble (catS rest) 8 = true) (hk : mc ≤ k.1 ∧ ms ≤ k.2) (hM : CT G d (mc, ms) Y2 [a1] M (fun r M' => XJ G (d + 1) (k.1 - mc, k.2 - ms) Y M' lv (rpush r rest) (pc + 3) Q)) : XJ G (d + 1) k Y M lv (a1 :: rest) pc Q :=
  x_callS [a1] hd hL rfl (catS_8 hs) hk rfl hM
theorem x_cSN1 {Y2 : MR} {idx : Nat} {a1 : Value} (hd : decode Y.2.1 pc = .ok (.invokestatic idx, 3)) (hL : LkSN Y.1.cls idx Y2 1) (hs : Nat.ble (catS rest) 8 = true) (hM : CT G d (0, 0) Y2 [a1] M (fun r M' => XJ G (d + 1) k Y M' lv (rpush r rest) (pc + 3) Q)) : XJ G (d + 1) k Y M lv (a1 :: rest) pc Q :=
  x_callSN [a1] hd hL rfl (catS_8 hs) ⟨Nat.zero_le _, Nat.zero_le _⟩ rfl hM
theorem x_rSN1 {Y2 : MR} {idx mc ms : Nat} {a1 : Value} (hd : decode Y.2.1 pc = .ok (.invokestatic idx, 3)) (hL : LkSN Y.1.cls idx Y2 1) (hs : Nat.ble (catS rest) 8 = true) (hk : mc ≤ k.1 ∧ ms ≤ k.2) (hM : CT G d (mc, ms) Y2 [a1] M (fun r M' => XJ G (d + 1) (k.1 - mc, k.2 - ms) Y M' lv (rpush r rest) (pc + 3) Q)) : XJ G (d + 1) k Y M lv (a1 :: rest) pc Q :=
  x_callSN [a1] hd hL rfl (catS_8 hs) hk rfl hM
theorem x_cV1 {Y2 : MR} {idx : Nat} {a1 : Value} {b : Nat} {ci sz : Nat} {f : Nat → Value} {q : vw_C} (hd : decode Y.2.1 pc = .ok (.invokevirtual idx, 3)) (hL : LkV Y.1.cls idx Y2 1) (hb : M b = some (ci, sz, f)) (hq : vwCl[ci]? = some q) (hqc : q.1 = Y2.1.cls) (hs : Nat.ble (catS rest) 8 = true) (hM : CT G d (0, 0) Y2 (.ref b :: [a1]) M (fun r M' => XJ G (d + 1) k Y M' lv (rpush r rest) (pc + 3) Q)) : XJ G (d + 1) k Y M lv (a1 :: .ref b :: rest) pc Q :=
  x_callV [a1] hd hL hb hq hqc rfl (catS_8 hs) ⟨Nat.zero_le _, Nat.zero_le _⟩ rfl hM
theorem x_rV1 {Y2 : MR} {idx mc ms : Nat} {a1 : Value} {b : Nat} {ci sz : Nat} {f : Nat → Value} {q : vw_C} (hd : decode Y.2.1 pc = .ok (.invokevirtual idx, 3)) (hL : LkV Y.1.cls idx Y2 1) (hb : M b = some (ci, sz, f)) (hq : vwCl[ci]? = some q) (hqc : q.1 = Y2.1.cls) (hs : Nat.ble (catS rest) 8 = true) (hk : mc ≤ k.1 ∧ ms ≤ k.2) (hM : CT G d (mc, ms) Y2 (.ref b :: [a1]) M (fun r M' => XJ G (d + 1) (k.1 - mc, k.2 - ms) Y M' lv (rpush r rest) (pc + 3) Q)) : XJ G (d + 1) k Y M lv (a1 :: .ref b :: rest) pc Q :=
  x_callV [a1] hd hL hb hq hqc rfl (catS_8 hs) hk rfl hM
theorem x_cI1 {Y2 : MR} {idx : Nat} {a1 : Value} {b : Nat} (hd : decode Y.2.1 pc = .ok (.invokespecial idx, 3)) (hL : LkI Y.1.cls idx Y2 1) (hr : Y2.2.2.2 = none) (hs : Nat.ble (catS rest) 8 = true) (hM : CT G d (0, 0) Y2 (.ref b :: [a1]) M (fun r M' => XJ G (d + 1) k Y M' lv (rpush r rest) (pc + 3) Q)) : XJ G (d + 1) k Y M lv (a1 :: .ref b :: rest) pc Q :=
  x_callI [a1] hd hL hr rfl (catS_8 hs) ⟨Nat.zero_le _, Nat.zero_le _⟩ rfl hM
theorem x_rI1 {Y2 : MR} {idx mc ms : Nat} {a1 : Value} {b : Nat} (hd : decode Y.2.1 pc = .ok (.invokespecial idx, 3)) (hL : LkI Y.1.cls idx Y2 1) (hr : Y2.2.2.2 = none) (hs : Nat.ble (catS rest) 8 = true) (hk : mc ≤ k.1 ∧ ms ≤ k.2) (hM : CT G d (mc, ms) Y2 (.ref b :: [a1]) M (fun r M' => XJ G (d + 1) (k.1 - mc, k.2 - ms) Y M' lv (rpush r rest) (pc + 3) Q)) : XJ G (d + 1) k Y M lv (a1 :: .ref b :: rest) pc Q :=
  x_callI [a1] hd hL hr rfl (catS_8 hs) hk rfl hM
theorem x_cIN1 {Y2 : MR} {idx : Nat} {a1 : Value} {b : Nat} (hd : decode Y.2.1 pc = .ok (.invokespecial idx, 3)) (hL : LkIN Y.1.cls idx Y2 1) (hr : Y2.2.2.2 = none) (hs : Nat.ble (catS rest) 8 = true) (hM : CT G d (0, 0) Y2 (.ref b :: [a1]) M (fun r M' => XJ G (d + 1) k Y M' lv (rpush r rest) (pc + 3) Q)) : XJ G (d + 1) k Y M lv (a1 :: .ref b :: rest) pc Q :=
  x_callIN [a1] hd hL hr rfl (catS_8 hs) ⟨Nat.zero_le _, Nat.zero_le _⟩ rfl hM
theorem x_rIN1 {Y2 : MR} {idx mc ms : Nat} {a1 : Value} {b : Nat} (hd : decode Y.2.1 pc = .ok (.invokespecial idx, 3)) (hL : LkIN Y.1.cls idx Y2 1) (hr : Y2.2.2.2 = none) (hs : Nat.ble (catS rest) 8 = true) (hk : mc ≤ k.1 ∧ ms ≤ k.2) (hM : CT G d (mc, ms) Y2 (.ref b :: [a1]) M (fun r M' => XJ G (d + 1) (k.1 - mc, k.2 - ms) Y M' lv (rpush r rest) (pc + 3) Q)) : XJ G (d + 1) k Y M lv (a1 :: .ref b :: rest) pc Q :=
  x_callIN [a1] hd hL hr rfl (catS_8 hs) hk rfl hM
theorem x_cS2 {Y2 : MR} {idx : Nat} {a1 a2 : Value} (hd : decode Y.2.1 pc = .ok (.invokestatic idx, 3)) (hL : LkS Y.1.cls idx Y2 2) (hs : Nat.ble (catS rest) 8 = true) (hM : CT G d (0, 0) Y2 [a1, a2] M (fun r M' => XJ G (d + 1) k Y M' lv (rpush r rest) (pc + 3) Q)) : XJ G (d + 1) k Y M lv (a2 :: a1 :: rest) pc Q :=
  x_callS [a1, a2] hd hL rfl (catS_8 hs) ⟨Nat.zero_le _, Nat.zero_le _⟩ rfl hM
theorem x_rS2 {Y2 : MR} {idx mc ms : Nat} {a1 a2 : Value} (hd : decode Y.2.1 pc = .ok (.invokestatic idx, 3)) (hL : LkS Y.1.cls idx Y2 2) (hs : Nat.ble (catS rest) 8 = true) (hk : mc ≤ k.1 ∧ ms ≤ k.2) (hM : CT G d (mc, ms) Y2 [a1, a2] M (fun r M' => XJ G (d + 1) (k.1 - mc, k.2 - ms) Y M' lv (rpush r rest) (pc + 3) Q)) : XJ G (d + 1) k Y M lv (a2 :: a1 :: rest) pc Q :=
  x_callS [a1, a2] hd hL rfl (catS_8 hs) hk rfl hM
theorem x_cSN2 {Y2 : MR} {idx : Nat} {a1 a2 : Value} (hd : decode Y.2.1 pc = .ok (.invokestatic idx, 3)) (hL : LkSN Y.1.cls idx Y2 2) (hs : Nat.ble (catS rest) 8 = true) (hM : CT G d (0, 0) Y2 [a1, a2] M (fun r M' => XJ G (d + 1) k Y M' lv (rpush r rest) (pc + 3) Q)) : XJ G (d + 1) k Y M lv (a2 :: a1 :: rest) pc Q :=
  x_callSN [a1, a2] hd hL rfl (catS_8 hs) ⟨Nat.zero_le _, Nat.zero_le _⟩ rfl hM
theorem x_rSN2 {Y2 : MR} {idx mc ms : Nat} {a1 a2 : Value} (hd : decode Y.2.1 pc = .ok (.invokestatic idx, 3)) (hL : LkSN Y.1.cls idx Y2 2) (hs : Nat.ble (catS rest) 8 = true) (hk : mc ≤ k.1 ∧ ms ≤ k.2) (hM : CT G d (mc, ms) Y2 [a1, a2] M (fun r M' => XJ G (d + 1) (k.1 - mc, k.2 - ms) Y M' lv (rpush r rest) (pc + 3) Q)) : XJ G (d + 1) k Y M lv (a2 :: a1 :: rest) pc Q :=
  x_callSN [a1, a2] hd hL rfl (catS_8 hs) hk rfl hM
theorem x_cV2 {Y2 : MR} {idx : Nat} {a1 a2 : Value} {b : Nat} {ci sz : Nat} {f : Nat → Value} {q : vw_C} (hd : decode Y.2.1 pc = .ok (.invokevirtual idx, 3)) (hL : LkV Y.1.cls idx Y2 2) (hb : M b = some (ci, sz, f)) (hq : vwCl[ci]? = some q) (hqc : q.1 = Y2.1.cls) (hs : Nat.ble (catS rest) 8 = true) (hM : CT G d (0, 0) Y2 (.ref b :: [a1, a2]) M (fun r M' => XJ G (d + 1) k Y M' lv (rpush r rest) (pc + 3) Q)) : XJ G (d + 1) k Y M lv (a2 :: a1 :: .ref b :: rest) pc Q :=
  x_callV [a1, a2] hd hL hb hq hqc rfl (catS_8 hs) ⟨Nat.zero_le _, Nat.zero_le _⟩ rfl hM
theorem x_rV2 {Y2 : MR} {idx mc ms : Nat} {a1 a2 : Value} {b : Nat} {ci sz : Nat} {f : Nat → Value} {q : vw_C} (hd : decode Y.2.1 pc = .ok (.invokevirtual idx, 3)) (hL : LkV Y.1.cls idx Y2 2) (hb : M b = some (ci, sz, f)) (hq : vwCl[ci]? = some q) (hqc : q.1 = Y2.1.cls) (hs : Nat.ble (catS rest) 8 = true) (hk : mc ≤ k.1 ∧ ms ≤ k.2) (hM : CT G d (mc, ms) Y2 (.ref b :: [a1, a2]) M (fun r M' => XJ G (d + 1) (k.1 - mc, k.2 - ms) Y M' lv (rpush r rest) (pc + 3) Q)) : XJ G (d + 1) k Y M lv (a2 :: a1 :: .ref b :: rest) pc Q :=
  x_callV [a1, a2] hd hL hb hq hqc rfl (catS_8 hs) hk rfl hM
theorem x_cI2 {Y2 : MR} {idx : Nat} {a1 a2 : Value} {b : Nat} (hd : decode Y.2.1 pc = .ok (.invokespecial idx, 3)) (hL : LkI Y.1.cls idx Y2 2) (hr : Y2.2.2.2 = none) (hs : Nat.ble (catS rest) 8 = true) (hM : CT G d (0, 0) Y2 (.ref b :: [a1, a2]) M (fun r M' => XJ G (d + 1) k Y M' lv (rpush r rest) (pc + 3) Q)) : XJ G (d + 1) k Y M lv (a2 :: a1 :: .ref b :: rest) pc Q :=
  x_callI [a1, a2] hd hL hr rfl (catS_8 hs) ⟨Nat.zero_le _, Nat.zero_le _⟩ rfl hM
theorem x_rI2 {Y2 : MR} {idx mc ms : Nat} {a1 a2 : Value} {b : Nat} (hd : decode Y.2.1 pc = .ok (.invokespecial idx, 3)) (hL : LkI Y.1.cls idx Y2 2) (hr : Y2.2.2.2 = none) (hs : Nat.ble (catS rest) 8 = true) (hk : mc ≤ k.1 ∧ ms ≤ k.2) (hM : CT G d (mc, ms) Y2 (.ref b :: [a1, a2]) M (fun r M' => XJ G (d + 1) (k.1 - mc, k.2 - ms) Y M' lv (rpush r rest) (pc + 3) Q)) : XJ G (d + 1) k Y M lv (a2 :: a1 :: .ref b :: rest) pc Q :=
  x_callI [a1, a2] hd hL hr rfl (catS_8 hs) hk rfl hM
theorem x_cIN2 {Y2 : MR} {idx : Nat} {a1 a2 : Value} {b : Nat} (hd : decode Y.2.1 pc = .ok (.invokespecial idx, 3)) (hL : LkIN Y.1.cls idx Y2 2) (hr : Y2.2.2.2 = none) (hs : Nat.ble (catS rest) 8 = true) (hM : CT G d (0, 0) Y2 (.ref b :: [a1, a2]) M (fun r M' => XJ G (d + 1) k Y M' lv (rpush r rest) (pc + 3) Q)) : XJ G (d + 1) k Y M lv (a2 :: a1 :: .ref b :: rest) pc Q :=
  x_callIN [a1, a2] hd hL hr rfl (catS_8 hs) ⟨Nat.zero_le _, Nat.zero_le _⟩ rfl hM
theorem x_rIN2 {Y2 : MR} {idx mc ms : Nat} {a1 a2 : Value} {b : Nat} (hd : decode Y.2.1 pc = .ok (.invokespecial idx, 3)) (hL : LkIN Y.1.cls idx Y2 2) (hr : Y2.2.2.2 = none) (hs : Nat.ble (catS rest) 8 = true) (hk : mc ≤ k.1 ∧ ms ≤ k.2) (hM : CT G d (mc, ms) Y2 (.ref b :: [a1, a2]) M (fun r M' => XJ G (d + 1) (k.1 - mc, k.2 - ms) Y M' lv (rpush r rest) (pc + 3) Q)) : XJ G (d + 1) k Y M lv (a2 :: a1 :: .ref b :: rest) pc Q :=
  x_callIN [a1, a2] hd hL hr rfl (catS_8 hs) hk rfl hM
theorem x_cS3 {Y2 : MR} {idx : Nat} {a1 a2 a3 : Value} (hd : decode Y.2.1 pc = .ok (.invokestatic idx, 3)) (hL : LkS Y.1.cls idx Y2 3) (hs : Nat.ble (catS rest) 8 = true) (hM : CT G d (0, 0) Y2 [a1, a2, a3] M (fun r M' => XJ G (d + 1) k Y M' lv (rpush r rest) (pc + 3) Q)) : XJ G (d + 1) k Y M lv (a3 :: a2 :: a1 :: rest) pc Q :=
  x_callS [a1, a2, a3] hd hL rfl (catS_8 hs) ⟨Nat.zero_le _, Nat.zero_le _⟩ rfl hM
theorem x_rS3 {Y2 : MR} {idx mc ms : Nat} {a1 a2 a3 : Value} (hd : decode Y.2.1 pc = .ok (.invokestatic idx, 3)) (hL : LkS Y.1.cls idx Y2 3) (hs : Nat.ble (catS rest) 8 = true) (hk : mc ≤ k.1 ∧ ms ≤ k.2) (hM : CT G d (mc, ms) Y2 [a1, a2, a3] M (fun r M' => XJ G (d + 1) (k.1 - mc, k.2 - ms) Y M' lv (rpush r rest) (pc + 3) Q)) : XJ G (d + 1) k Y M lv (a3 :: a2 :: a1 :: rest) pc Q :=
  x_callS [a1, a2, a3] hd hL rfl (catS_8 hs) hk rfl hM
theorem x_cSN3 {Y2 : MR} {idx : Nat} {a1 a2 a3 : Value} (hd : decode Y.2.1 pc = .ok (.invokestatic idx, 3)) (hL : LkSN Y.1.cls idx Y2 3) (hs : Nat.ble (catS rest) 8 = true) (hM : CT G d (0, 0) Y2 [a1, a2, a3] M (fun r M' => XJ G (d + 1) k Y M' lv (rpush r rest) (pc + 3) Q)) : XJ G (d + 1) k Y M lv (a3 :: a2 :: a1 :: rest) pc Q :=
  x_callSN [a1, a2, a3] hd hL rfl (catS_8 hs) ⟨Nat.zero_le _, Nat.zero_le _⟩ rfl hM
theorem x_rSN3 {Y2 : MR} {idx mc ms : Nat} {a1 a2 a3 : Value} (hd : decode Y.2.1 pc = .ok (.invokestatic idx, 3)) (hL : LkSN Y.1.cls idx Y2 3) (hs : Nat.ble (catS rest) 8 = true) (hk : mc ≤ k.1 ∧ ms ≤ k.2) (hM : CT G d (mc, ms) Y2 [a1, a2, a3] M (fun r M' => XJ G (d + 1) (k.1 - mc, k.2 - ms) Y M' lv (rpush r rest) (pc + 3) Q)) : XJ G (d + 1) k Y M lv (a3 :: a2 :: a1 :: rest) pc Q :=
  x_callSN [a1, a2, a3] hd hL rfl (catS_8 hs) hk rfl hM
theorem x_cV3 {Y2 : MR} {idx : Nat} {a1 a2 a3 : Value} {b : Nat} {ci sz : Nat} {f : Nat → Value} {q : vw_C} (hd : decode Y.2.1 pc = .ok (.invokevirtual idx, 3)) (hL : LkV Y.1.cls idx Y2 3) (hb : M b = some (ci, sz, f)) (hq : vwCl[ci]? = some q) (hqc : q.1 = Y2.1.cls) (hs : Nat.ble (catS rest) 8 = true) (hM : CT G d (0, 0) Y2 (.ref b :: [a1, a2, a3]) M (fun r M' => XJ G (d + 1) k Y M' lv (rpush r rest) (pc + 3) Q)) : XJ G (d + 1) k Y M lv (a3 :: a2 :: a1 :: .ref b :: rest) pc Q :=
  x_callV [a1, a2, a3] hd hL hb hq hqc rfl (catS_8 hs) ⟨Nat.zero_le _, Nat.zero_le _⟩ rfl hM
theorem x_rV3 {Y2 : MR} {idx mc ms : Nat} {a1 a2 a3 : Value} {b : Nat} {ci sz : Nat} {f : Nat → Value} {q : vw_C} (hd : decode Y.2.1 pc = .ok (.invokevirtual idx, 3)) (hL : LkV Y.1.cls idx Y2 3) (hb : M b = some (ci, sz, f)) (hq : vwCl[ci]? = some q) (hqc : q.1 = Y2.1.cls) (hs : Nat.ble (catS rest) 8 = true) (hk : mc ≤ k.1 ∧ ms ≤ k.2) (hM : CT G d (mc, ms) Y2 (.ref b :: [a1, a2, a3]) M (fun r M' => XJ G (d + 1) (k.1 - mc, k.2 - ms) Y M' lv (rpush r rest) (pc + 3) Q)) : XJ G (d + 1) k Y M lv (a3 :: a2 :: a1 :: .ref b :: rest) pc Q :=
  x_callV [a1, a2, a3] hd hL hb hq hqc rfl (catS_8 hs) hk rfl hM
theorem x_cI3 {Y2 : MR} {idx : Nat} {a1 a2 a3 : Value} {b : Nat} (hd : decode Y.2.1 pc = .ok (.invokespecial idx, 3)) (hL : LkI Y.1.cls idx Y2 3) (hr : Y2.2.2.2 = none) (hs : Nat.ble (catS rest) 8 = true) (hM : CT G d (0, 0) Y2 (.ref b :: [a1, a2, a3]) M (fun r M' => XJ G (d + 1) k Y M' lv (rpush r rest) (pc + 3) Q)) : XJ G (d + 1) k Y M lv (a3 :: a2 :: a1 :: .ref b :: rest) pc Q :=
  x_callI [a1, a2, a3] hd hL hr rfl (catS_8 hs) ⟨Nat.zero_le _, Nat.zero_le _⟩ rfl hM
theorem x_rI3 {Y2 : MR} {idx mc ms : Nat} {a1 a2 a3 : Value} {b : Nat} (hd : decode Y.2.1 pc = .ok (.invokespecial idx, 3)) (hL : LkI Y.1.cls idx Y2 3) (hr : Y2.2.2.2 = none) (hs : Nat.ble (catS rest) 8 = true) (hk : mc ≤ k.1 ∧ ms ≤ k.2) (hM : CT G d (mc, ms) Y2 (.ref b :: [a1, a2, a3]) M (fun r M' => XJ G (d + 1) (k.1 - mc, k.2 - ms) Y M' lv (rpush r rest) (pc + 3) Q)) : XJ G (d + 1) k Y M lv (a3 :: a2 :: a1 :: .ref b :: rest) pc Q :=
  x_callI [a1, a2, a3] hd hL hr rfl (catS_8 hs) hk rfl hM
theorem x_cIN3 {Y2 : MR} {idx : Nat} {a1 a2 a3 : Value} {b : Nat} (hd : decode Y.2.1 pc = .ok (.invokespecial idx, 3)) (hL : LkIN Y.1.cls idx Y2 3) (hr : Y2.2.2.2 = none) (hs : Nat.ble (catS rest) 8 = true) (hM : CT G d (0, 0) Y2 (.ref b :: [a1, a2, a3]) M (fun r M' => XJ G (d + 1) k Y M' lv (rpush r rest) (pc + 3) Q)) : XJ G (d + 1) k Y M lv (a3 :: a2 :: a1 :: .ref b :: rest) pc Q :=
  x_callIN [a1, a2, a3] hd hL hr rfl (catS_8 hs) ⟨Nat.zero_le _, Nat.zero_le _⟩ rfl hM
theorem x_rIN3 {Y2 : MR} {idx mc ms : Nat} {a1 a2 a3 : Value} {b : Nat} (hd : decode Y.2.1 pc = .ok (.invokespecial idx, 3)) (hL : LkIN Y.1.cls idx Y2 3) (hr : Y2.2.2.2 = none) (hs : Nat.ble (catS rest) 8 = true) (hk : mc ≤ k.1 ∧ ms ≤ k.2) (hM : CT G d (mc, ms) Y2 (.ref b :: [a1, a2, a3]) M (fun r M' => XJ G (d + 1) (k.1 - mc, k.2 - ms) Y M' lv (rpush r rest) (pc + 3) Q)) : XJ G (d + 1) k Y M lv (a3 :: a2 :: a1 :: .ref b :: rest) pc Q :=
  x_callIN [a1, a2, a3] hd hL hr rfl (catS_8 hs) hk rfl hM
theorem x_cS4 {Y2 : MR} {idx : Nat} {a1 a2 a3 a4 : Value} (hd : decode Y.2.1 pc = .ok (.invokestatic idx, 3)) (hL : LkS Y.1.cls idx Y2 4) (hs : Nat.ble (catS rest) 8 = true) (hM : CT G d (0, 0) Y2 [a1, a2, a3, a4] M (fun r M' => XJ G (d + 1) k Y M' lv (rpush r rest) (pc + 3) Q)) : XJ G (d + 1) k Y M lv (a4 :: a3 :: a2 :: a1 :: rest) pc Q :=
  x_callS [a1, a2, a3, a4] hd hL rfl (catS_8 hs) ⟨Nat.zero_le _, Nat.zero_le _⟩ rfl hM
theorem x_rS4 {Y2 : MR} {idx mc ms : Nat} {a1 a2 a3 a4 : Value} (hd : decode Y.2.1 pc = .ok (.invokestatic idx, 3)) (hL : LkS Y.1.cls idx Y2 4) (hs : Nat.ble (catS rest) 8 = true) (hk : mc ≤ k.1 ∧ ms ≤ k.2) (hM : CT G d (mc, ms) Y2 [a1, a2, a3, a4] M (fun r M' => XJ G (d + 1) (k.1 - mc, k.2 - ms) Y M' lv (rpush r rest) (pc + 3) Q)) : XJ G (d + 1) k Y M lv (a4 :: a3 :: a2 :: a1 :: rest) pc Q :=
  x_callS [a1, a2, a3, a4] hd hL rfl (catS_8 hs) hk rfl hM
theorem x_cSN4 {Y2 : MR} {idx : Nat} {a1 a2 a3 a4 : Value} (hd : decode Y.2.1 pc = .ok (.invokestatic idx, 3)) (hL : LkSN Y.1.cls idx Y2 4) (hs : Nat.ble (catS rest) 8 = true) (hM : CT G d (0, 0) Y2 [a1, a2, a3, a4] M (fun r M' => XJ G (d + 1) k Y M' lv (rpush r rest) (pc + 3) Q)) : XJ G (d + 1) k Y M lv (a4 :: a3 :: a2 :: a1 :: rest) pc Q :=
  x_callSN [a1, a2, a3, a4] hd hL rfl (catS_8 hs) ⟨Nat.zero_le _, Nat.zero_le _⟩ rfl hM
theorem x_rSN4 {Y2 : MR} {idx mc ms : Nat} {a1 a2 a3 a4 : Value} (hd : decode Y.2.1 pc = .ok (.invokestatic idx, 3)) (hL : LkSN Y.1.cls idx Y2 4) (hs : Nat.ble (catS rest) 8 = true) (hk : mc ≤ k.1 ∧ ms ≤ k.2) (hM : CT G d (mc, ms) Y2 [a1, a2, a3, a4] M (fun r M' => XJ G (d + 1) (k.1 - mc, k.2 - ms) Y M' lv (rpush r rest) (pc + 3) Q)) : XJ G (d + 1) k Y M lv (a4 :: a3 :: a2 :: a1 :: rest) pc Q :=
  x_callSN [a1, a2, a3, a4] hd hL rfl (catS_8 hs) hk rfl hM
theorem x_cV4 {Y2 : MR} {idx : Nat} {a1 a2 a3 a4 : Value} {b : Nat} {ci sz : Nat} {f : Nat → Value} {q : vw_C} (hd : decode Y.2.1 pc = .ok (.invokevirtual idx, 3)) (hL : LkV Y.1.cls idx Y2 4) (hb : M b = some (ci, sz, f)) (hq : vwCl[ci]? = some q) (hqc : q.1 = Y2.1.cls) (hs : Nat.ble (catS rest) 8 = true) (hM : CT G d (0, 0) Y2 (.ref b :: [a1, a2, a3, a4]) M (fun r M' => XJ G (d + 1) k Y M' lv (rpush r rest) (pc + 3) Q)) : XJ G (d + 1) k Y M lv (a4 :: a3 :: a2 :: a1 :: .ref b :: rest) pc Q :=
  x_callV [a1, a2, a3, a4] hd hL hb hq hqc rfl (catS_8 hs) ⟨Nat.zero_le _, Nat.zero_le _⟩ rfl hM
theorem x_rV4 {Y2 : MR} {idx mc ms : Nat} {a1 a2 a3 a4 : Value} {b : Nat} {ci sz : Nat} {f : Nat → Value} {q : vw_C} (hd : decode Y.2.1 pc = .ok (.invokevirtual idx, 3)) (hL : LkV Y.1.cls idx Y2 4) (hb : M b = some (ci, sz, f)) (hq : vwCl[ci]? = some q) (hqc : q.1 = Y2.1.cls) (hs : Nat.ble (catS rest) 8 = true) (hk : mc ≤ k.1 ∧ ms ≤ k.2) (hM : CT G d (mc, ms) Y2 (.ref b :: [a1, a2, a3, a4]) M (fun r M' => XJ G (d + 1) (k.1 - mc, k.2 - ms) Y M' lv (rpush r rest) (pc + 3) Q)) : XJ G (d + 1) k Y M lv (a4 :: a3 :: a2 :: a1 :: .ref b :: rest) pc Q :=
  x_callV [a1, a2, a3, a4] hd hL hb hq hqc rfl (catS_8 hs) hk rfl hM
theorem x_cI4 {Y2 : MR} {idx : Nat} {a1 a2 a3 a4 : Value} {b : Nat} (hd : decode Y.2.1 pc = .ok (.invokespecial idx, 3)) (hL : LkI Y.1.cls idx Y2 4) (hr : Y2.2.2.2 = none) (hs : Nat.ble (catS rest) 8 = true) (hM : CT G d (0, 0) Y2 (.ref b :: [a1, a2, a3, a4]) M (fun r M' => XJ G (d + 1) k Y M' lv (rpush r rest) (pc + 3) Q)) : XJ G (d + 1) k Y M lv (a4 :: a3 :: a2 :: a1 :: .ref b :: rest) pc Q :=
  x_callI [a1, a2, a3, a4] hd hL hr rfl (catS_8 hs) ⟨Nat.zero_le _, Nat.zero_le _⟩ rfl hM
theorem x_rI4 {Y2 : MR} {idx mc ms : Nat} {a1 a2 a3 a4 : Value} {b : Nat} (hd : decode Y.2.1 pc = .ok (.invokespecial idx, 3)) (hL : LkI Y.1.cls idx Y2 4) (hr : Y2.2.2.2 = none) (hs : Nat.ble (catS rest) 8 = true) (hk : mc ≤ k.1 ∧ ms ≤ k.2) (hM : CT G d (mc, ms) Y2 (.ref b :: [a1, a2, a3, a4]) M (fun r M' => XJ G (d + 1) (k.1 - mc, k.2 - ms) Y M' lv (rpush r rest) (pc + 3) Q)) : XJ G (d + 1) k Y M lv (a4 :: a3 :: a2 :: a1 :: .ref b :: rest) pc Q :=
  x_callI [a1, a2, a3, a4] hd hL hr rfl (catS_8 hs) hk rfl hM
theorem x_cIN4 {Y2 : MR} {idx : Nat} {a1 a2 a3 a4 : Value} {b : Nat} (hd : decode Y.2.1 pc = .ok (.invokespecial idx, 3)) (hL : LkIN Y.1.cls idx Y2 4) (hr : Y2.2.2.2 = none) (hs : Nat.ble (catS rest) 8 = true) (hM : CT G d (0, 0) Y2 (.ref b :: [a1, a2, a3, a4]) M (fun r M' => XJ G (d + 1) k Y M' lv (rpush r rest) (pc + 3) Q)) : XJ G (d + 1) k Y M lv (a4 :: a3 :: a2 :: a1 :: .ref b :: rest) pc Q :=
  x_callIN [a1, a2, a3, a4] hd hL hr rfl (catS_8 hs) ⟨Nat.zero_le _, Nat.zero_le _⟩ rfl hM
theorem x_rIN4 {Y2 : MR} {idx mc ms : Nat} {a1 a2 a3 a4 : Value} {b : Nat} (hd : decode Y.2.1 pc = .ok (.invokespecial idx, 3)) (hL : LkIN Y.1.cls idx Y2 4) (hr : Y2.2.2.2 = none) (hs : Nat.ble (catS rest) 8 = true) (hk : mc ≤ k.1 ∧ ms ≤ k.2) (hM : CT G d (mc, ms) Y2 (.ref b :: [a1, a2, a3, a4]) M (fun r M' => XJ G (d + 1) (k.1 - mc, k.2 - ms) Y M' lv (rpush r rest) (pc + 3) Q)) : XJ G (d + 1) k Y M lv (a4 :: a3 :: a2 :: a1 :: .ref b :: rest) pc Q :=
  x_callIN [a1, a2, a3, a4] hd hL hr rfl (catS_8 hs) hk rfl hM
theorem x_cS5 {Y2 : MR} {idx : Nat} {a1 a2 a3 a4 a5 : Value} (hd : decode Y.2.1 pc = .ok (.invokestatic idx, 3)) (hL : LkS Y.1.cls idx Y2 5) (hs : Nat.ble (catS rest) 8 = true) (hM : CT G d (0, 0) Y2 [a1, a2, a3, a4, a5] M (fun r M' => XJ G (d + 1) k Y M' lv (rpush r rest) (pc + 3) Q)) : XJ G (d + 1) k Y M lv (a5 :: a4 :: a3 :: a2 :: a1 :: rest) pc Q :=
  x_callS [a1, a2, a3, a4, a5] hd hL rfl (catS_8 hs) ⟨Nat.zero_le _, Nat.zero_le _⟩ rfl hM
theorem x_rS5 {Y2 : MR} {idx mc ms : Nat} {a1 a2 a3 a4 a5 : Value} (hd : decode Y.2.1 pc = .ok (.invokestatic idx, 3)) (hL : LkS Y.1.cls idx Y2 5) (hs : Nat.ble (catS rest) 8 = true) (hk : mc ≤ k.1 ∧ ms ≤ k.2) (hM : CT G d (mc, ms) Y2 [a1, a2, a3, a4, a5] M (fun r M' => XJ G (d + 1) (k.1 - mc, k.2 - ms) Y M' lv (rpush r rest) (pc + 3) Q)) : XJ G (d + 1) k Y M lv (a5 :: a4 :: a3 :: a2 :: a1 :: rest) pc Q :=
  x_callS [a1, a2, a3, a4, a5] hd hL rfl (catS_8 hs) hk rfl hM
theorem x_cSN5 {Y2 : MR} {idx : Nat} {a1 a2 a3 a4 a5 : Value} (hd : decode Y.2.1 pc = .ok (.invokestatic idx, 3)) (hL : LkSN Y.1.cls idx Y2 5) (hs : Nat.ble (catS rest) 8 = true) (hM : CT G d (0, 0) Y2 [a1, a2, a3, a4, a5] M (fun r M' => XJ G (d + 1) k Y M' lv (rpush r rest) (pc + 3) Q)) : XJ G (d + 1) k Y M lv (a5 :: a4 :: a3 :: a2 :: a1 :: rest) pc Q :=
  x_callSN [a1, a2, a3, a4, a5] hd hL rfl (catS_8 hs) ⟨Nat.zero_le _, Nat.zero_le _⟩ rfl hM
theorem x_rSN5 {Y2 : MR} {idx mc ms : Nat} {a1 a2 a3 a4 a5 : Value} (hd : decode Y.2.1 pc = .ok (.invokestatic idx, 3)) (hL : LkSN Y.1.cls idx Y2 5) (hs : Nat.ble (catS rest) 8 = true) (hk : mc ≤ k.1 ∧ ms ≤ k.2) (hM : CT G d (mc, ms) Y2 [a1, a2, a3, a4, a5] M (fun r M' => XJ G (d + 1) (k.1 - mc, k.2 - ms) Y M' lv (rpush r rest) (pc + 3) Q)) : XJ G (d + 1) k Y M lv (a5 :: a4 :: a3 :: a2 :: a1 :: rest) pc Q :=
  x_callSN [a1, a2, a3, a4, a5] hd hL rfl (catS_8 hs) hk rfl hM
theorem x_cV5 {Y2 : MR} {idx : Nat} {a1 a2 a3 a4 a5 : Value} {b : Nat} {ci sz : Nat} {f : Nat → Value} {q : vw_C} (hd : decode Y.2.1 pc = .ok (.invokevirtual idx, 3)) (hL : LkV Y.1.cls idx Y2 5) (hb : M b = some (ci, sz, f)) (hq : vwCl[ci]? = some q) (hqc : q.1 = Y2.1.cls) (hs : Nat.ble (catS rest) 8 = true) (hM : CT G d (0, 0) Y2 (.ref b :: [a1, a2, a3, a4, a5]) M (fun r M' => XJ G (d + 1) k Y M' lv (rpush r rest) (pc + 3) Q)) : XJ G (d + 1) k Y M lv (a5 :: a4 :: a3 :: a2 :: a1 :: .ref b :: rest) pc Q :=
  x_callV [a1, a2, a3, a4, a5] hd hL hb hq hqc rfl (catS_8 hs) ⟨Nat.zero_le _, Nat.zero_le _⟩ rfl hM
theorem x_rV5 {Y2 : MR} {idx mc ms : Nat} {a1 a2 a3 a4 a5 : Value} {b : Nat} {ci sz : Nat} {f : Nat → Value} {q : vw_C} (hd : decode Y.2.1 pc = .ok (.invokevirtual idx, 3)) (hL : LkV Y.1.cls idx Y2 5) (hb : M b = some (ci, sz, f)) (hq : vwCl[ci]? = some q) (hqc : q.1 = Y2.1.cls) (hs : Nat.ble (catS rest) 8 = true) (hk : mc ≤ k.1 ∧ ms ≤ k.2) (hM : CT G d (mc, ms) Y2 (.ref b :: [a1, a2, a3, a4, a5]) M (fun r M' => XJ G (d + 1) (k.1 - mc, k.2 - ms) Y M' lv (rpush r rest) (pc + 3) Q)) : XJ G (d + 1) k Y M lv (a5 :: a4 :: a3 :: a2 :: a1 :: .ref b :: rest) pc Q :=
  x_callV [a1, a2, a3, a4, a5] hd hL hb hq hqc rfl (catS_8 hs) hk rfl hM
theorem x_cI5 {Y2 : MR} {idx : Nat} {a1 a2 a3 a4 a5 : Value} {b : Nat} (hd : decode Y.2.1 pc = .ok (.invokespecial idx, 3)) (hL : LkI Y.1.cls idx Y2 5) (hr : Y2.2.2.2 = none) (hs : Nat.ble (catS rest) 8 = true) (hM : CT G d (0, 0) Y2 (.ref b :: [a1, a2, a3, a4, a5]) M (fun r M' => XJ G (d + 1) k Y M' lv (rpush r rest) (pc + 3) Q)) : XJ G (d + 1) k Y M lv (a5 :: a4 :: a3 :: a2 :: a1 :: .ref b :: rest) pc Q :=
  x_callI [a1, a2, a3, a4, a5] hd hL hr rfl (catS_8 hs) ⟨Nat.zero_le _, Nat.zero_le _⟩ rfl hM
theorem x_rI5 {Y2 : MR} {idx mc ms : Nat} {a1 a2 a3 a4 a5 : Value} {b : Nat} (hd : decode Y.2.1 pc = .ok (.invokespecial idx, 3)) (hL : LkI Y.1.cls idx Y2 5) (hr : Y2.2.2.2 = none) (hs : Nat.ble (catS rest) 8 = true) (hk : mc ≤ k.1 ∧ ms ≤ k.2) (hM : CT G d (mc, ms) Y2 (.ref b :: [a1, a2, a3, a4, a5]) M (fun r M' => XJ G (d + 1) (k.1 - mc, k.2 - ms) Y M' lv (rpush r rest) (pc + 3) Q)) : XJ G (d + 1) k Y M lv (a5 :: a4 :: a3 :: a2 :: a1 :: .ref b :: rest) pc Q :=
  x_callI [a1, a2, a3, a4, a5] hd hL hr rfl (catS_8 hs) hk rfl hM
theorem x_cIN5 {Y2 : MR} {idx : Nat} {a1 a2 a3 a4 a5 : Value} {b : Nat} (hd : decode Y.2.1 pc = .ok (.invokespecial idx, 3)) (hL : LkIN Y.1.cls idx Y2 5) (hr : Y2.2.2.2 = none) (hs : Nat.ble (catS rest) 8 = true) (hM : CT G d (0, 0) Y2 (.ref b :: [a1, a2, a3, a4, a5]) M (fun r M' => XJ G (d + 1) k Y M' lv (rpush r rest) (pc + 3) Q)) : XJ G (d + 1) k Y M lv (a5 :: a4 :: a3 :: a2 :: a1 :: .ref b :: rest) pc Q :=
  x_callIN [a1, a2, a3, a4, a5] hd hL hr rfl (catS_8 hs) ⟨Nat.zero_le _, Nat.zero_le _⟩ rfl hM
theorem x_rIN5 {Y2 : MR} {idx mc ms : Nat} {a1 a2 a3 a4 a5 : Value} {b : Nat} (hd : decode Y.2.1 pc = .ok (.invokespecial idx, 3)) (hL : LkIN Y.1.cls idx Y2 5) (hr : Y2.2.2.2 = none) (hs : Nat.ble (catS rest) 8 = true) (hk : mc ≤ k.1 ∧ ms ≤ k.2) (hM : CT G d (mc, ms) Y2 (.ref b :: [a1, a2, a3, a4, a5]) M (fun r M' => XJ G (d + 1) (k.1 - mc, k.2 - ms) Y M' lv (rpush r rest) (pc + 3) Q)) : XJ G (d + 1) k Y M lv (a5 :: a4 :: a3 :: a2 :: a1 :: .ref b :: rest) pc Q :=
  x_callIN [a1, a2, a3, a4, a5] hd hL hr rfl (catS_8 hs) hk rfl hM
theorem x_cS6 {Y2 : MR} {idx : Nat} {a1 a2 a3 a4 a5 a6 : Value} (hd : decode Y.2.1 pc = .ok (.invokestatic idx, 3)) (hL : LkS Y.1.cls idx Y2 6) (hs : Nat.ble (catS rest) 8 = true) (hM : CT G d (0, 0) Y2 [a1, a2, a3, a4, a5, a6] M (fun r M' => XJ G (d + 1) k Y M' lv (rpush r rest) (pc + 3) Q)) : XJ G (d + 1) k Y M lv (a6 :: a5 :: a4 :: a3 :: a2 :: a1 :: rest) pc Q :=
  x_callS [a1, a2, a3, a4, a5, a6] hd hL rfl (catS_8 hs) ⟨Nat.zero_le _, Nat.zero_le _⟩ rfl hM
theorem x_rS6 {Y2 : MR} {idx mc ms : Nat} {a1 a2 a3 a4 a5 a6 : Value} (hd : decode Y.2.1 pc = .ok (.invokestatic idx, 3)) (hL : LkS Y.1.cls idx Y2 6) (hs : Nat.ble (catS rest) 8 = true) (hk : mc ≤ k.1 ∧ ms ≤ k.2) (hM : CT G d (mc, ms) Y2 [a1, a2, a3, a4, a5, a6] M (fun r M' => XJ G (d + 1) (k.1 - mc, k.2 - ms) Y M' lv (rpush r rest) (pc + 3) Q)) : XJ G (d + 1) k Y M lv (a6 :: a5 :: a4 :: a3 :: a2 :: a1 :: rest) pc Q :=
  x_callS [a1, a2, a3, a4, a5, a6] hd hL rfl (catS_8 hs) hk rfl hM
theorem x_cSN6 {Y2 : MR} {idx : Nat} {a1 a2 a3 a4 a5 a6 : Value} (hd : decode Y.2.1 pc = .ok (.invokestatic idx, 3)) (hL : LkSN Y.1.cls idx Y2 6) (hs : Nat.ble (catS rest) 8 = true) (hM : CT G d (0, 0) Y2 [a1, a2, a3, a4, a5, a6] M (fun r M' => XJ G (d + 1) k Y M' lv (rpush r rest) (pc + 3) Q)) : XJ G (d + 1) k Y M lv (a6 :: a5 :: a4 :: a3 :: a2 :: a1 :: rest) pc Q :=
  x_callSN [a1, a2, a3, a4, a5, a6] hd hL rfl (catS_8 hs) ⟨Nat.zero_le _, Nat.zero_le _⟩ rfl hM
theorem x_rSN6 {Y2 : MR} {idx mc ms : Nat} {a1 a2 a3 a4 a5 a6 : Value} (hd : decode Y.2.1 pc = .ok (.invokestatic idx, 3)) (hL : LkSN Y.1.cls idx Y2 6) (hs : Nat.ble (catS rest) 8 = true) (hk : mc ≤ k.1 ∧ ms ≤ k.2) (hM : CT G d (mc, ms) Y2 [a1, a2, a3, a4, a5, a6] M (fun r M' => XJ G (d + 1) (k.1 - mc, k.2 - ms) Y M' lv (rpush r rest) (pc + 3) Q)) : XJ G (d + 1) k Y M lv (a6 :: a5 :: a4 :: a3 :: a2 :: a1 :: rest) pc Q :=
  x_callSN [a1, a2, a3, a4, a5, a6] hd hL rfl (catS_8 hs) hk rfl hM
theorem x_cV6 {Y2 : MR} {idx : Nat} {a1 a2 a3 a4 a5 a6 : Value} {b : Nat} {ci sz : Nat} {f : Nat → Value} {q : vw_C} (hd : decode Y.2.1 pc = .ok (.invokevirtual idx, 3)) (hL : LkV Y.1.cls idx Y2 6) (hb : M b = some (ci, sz, f)) (hq : vwCl[ci]? = some q) (hqc : q.1 = Y2.1.cls) (hs : Nat.ble (catS rest) 8 = true) (hM : CT G d (0, 0) Y2 (.ref b :: [a1, a2, a3, a4, a5, a6]) M (fun r M' => XJ G (d + 1) k Y M' lv (rpush r rest) (pc + 3) Q)) : XJ G (d + 1) k Y M lv (a6 :: a5 :: a4 :: a3 :: a2 :: a1 :: .ref b :: rest) pc Q :=
  x_callV [a1, a2, a3, a4, a5, a6] hd hL hb hq hqc rfl (catS_8 hs) ⟨Nat.zero_le _, Nat.zero_le _⟩ rfl hM
theorem x_rV6 {Y2 : MR} {idx mc ms : Nat} {a1 a2 a3 a4 a5 a6 : Value} {b : Nat} {ci sz : Nat} {f : Nat → Value} {q : vw_C} (hd : decode Y.2.1 pc = .ok (.invokevirtual idx, 3)) (hL : LkV Y.1.cls idx Y2 6) (hb : M b = some (ci, sz, f)) (hq : vwCl[ci]? = some q) (hqc : q.1 = Y2.1.cls) (hs : Nat.ble (catS rest) 8 = true) (hk : mc ≤ k.1 ∧ ms ≤ k.2) (hM : CT G d (mc, ms) Y2 (.ref b :: [a1, a2, a3, a4, a5, a6]) M (fun r M' => XJ G (d + 1) (k.1 - mc, k.2 - ms) Y M' lv (rpush r rest) (pc + 3) Q)) : XJ G (d + 1) k Y M lv (a6 :: a5 :: a4 :: a3 :: a2 :: a1 :: .ref b :: rest) pc Q :=
  x_callV [a1, a2, a3, a4, a5, a6] hd hL hb hq hqc rfl (catS_8 hs) hk rfl hM
theorem x_cI6 {Y2 : MR} {idx : Nat} {a1 a2 a3 a4 a5 a6 : Value} {b : Nat} (hd : decode Y.2.1 pc = .ok (.invokespecial idx, 3)) (hL : LkI Y.1.cls idx Y2 6) (hr : Y2.2.2.2 = none) (hs : Nat.ble (catS rest) 8 = true) (hM : CT G d (0, 0) Y2 (.ref b :: [a1, a2, a3, a4, a5, a6]) M (fun r M' => XJ G (d + 1) k Y M' lv (rpush r rest) (pc + 3) Q)) : XJ G (d + 1) k Y M lv (a6 :: a5 :: a4 :: a3 :: a2 :: a1 :: .ref b :: rest) pc Q :=
  x_callI [a1, a2, a3, a4, a5, a6] hd hL hr rfl (catS_8 hs) ⟨Nat.zero_le _, Nat.zero_le _⟩ rfl hM
theorem x_rI6 {Y2 : MR} {idx mc ms : Nat} {a1 a2 a3 a4 a5 a6 : Value} {b : Nat} (hd : decode Y.2.1 pc = .ok (.invokespecial idx, 3)) (hL : LkI Y.1.cls idx Y2 6) (hr : Y2.2.2.2 = none) (hs : Nat.ble (catS rest) 8 = true) (hk : mc ≤ k.1 ∧ ms ≤ k.2) (hM : CT G d (mc, ms) Y2 (.ref b :: [a1, a2, a3, a4, a5, a6]) M (fun r M' => XJ G (d + 1) (k.1 - mc, k.2 - ms) Y M' lv (rpush r rest) (pc + 3) Q)) : XJ G (d + 1) k Y M lv (a6 :: a5 :: a4 :: a3 :: a2 :: a1 :: .ref b :: rest) pc Q :=
  x_callI [a1, a2, a3, a4, a5, a6] hd hL hr rfl (catS_8 hs) hk rfl hM
theorem x_cIN6 {Y2 : MR} {idx : Nat} {a1 a2 a3 a4 a5 a6 : Value} {b : Nat} (hd : decode Y.2.1 pc = .ok (.invokespecial idx, 3)) (hL : LkIN Y.1.cls idx Y2 6) (hr : Y2.2.2.2 = none) (hs : Nat.ble (catS rest) 8 = true) (hM : CT G d (0, 0) Y2 (.ref b :: [a1, a2, a3, a4, a5, a6]) M (fun r M' => XJ G (d + 1) k Y M' lv (rpush r rest) (pc + 3) Q)) : XJ G (d + 1) k Y M lv (a6 :: a5 :: a4 :: a3 :: a2 :: a1 :: .ref b :: rest) pc Q :=
  x_callIN [a1, a2, a3, a4, a5, a6] hd hL hr rfl (catS_8 hs) ⟨Nat.zero_le _, Nat.zero_le _⟩ rfl hM
theorem x_rIN6 {Y2 : MR} {idx mc ms : Nat} {a1 a2 a3 a4 a5 a6 : Value} {b : Nat} (hd : decode Y.2.1 pc = .ok (.invokespecial idx, 3)) (hL : LkIN Y.1.cls idx Y2 6) (hr : Y2.2.2.2 = none) (hs : Nat.ble (catS rest) 8 = true) (hk : mc ≤ k.1 ∧ ms ≤ k.2) (hM : CT G d (mc, ms) Y2 (.ref b :: [a1, a2, a3, a4, a5, a6]) M (fun r M' => XJ G (d + 1) (k.1 - mc, k.2 - ms) Y M' lv (rpush r rest) (pc + 3) Q)) : XJ G (d + 1) k Y M lv (a6 :: a5 :: a4 :: a3 :: a2 :: a1 :: .ref b :: rest) pc Q :=
  x_callIN [a1, a2, a3, a4, a5, a6] hd hL hr rfl (catS_8 hs) hk rfl hM
theorem x_cS7 {Y2 : MR} {idx : Nat} {a1 a2 a3 a4 a5 a6 a7 : Value} (hd : decode Y.2.1 pc = .ok (.invokestatic idx, 3)) (hL : LkS Y.1.cls idx Y2 7) (hs : Nat.ble (catS rest) 8 = true) (hM : CT G d (0, 0) Y2 [a1, a2, a3, a4, a5, a6, a7] M (fun r M' => XJ G (d + 1) k Y M' lv (rpush r rest) (pc + 3) Q)) : XJ G (d + 1) k Y M lv (a7 :: a6 :: a5 :: a4 :: a3 :: a2 :: a1 :: rest) pc Q :=
  x_callS [a1, a2, a3, a4, a5, a6, a7] hd hL rfl (catS_8 hs) ⟨Nat.zero_le _, Nat.zero_le _⟩ rfl hM
theorem x_rS7 {Y2 : MR} {idx mc ms : Nat} {a1 a2 a3 a4 a5 a6 a7 : Value} (hd : decode Y.2.1 pc = .ok (.invokestatic idx, 3)) (hL : LkS Y.1.cls idx Y2 7) (hs : Nat.ble (catS rest) 8 = true) (hk : mc ≤ k.1 ∧ ms ≤ k.2) (hM : CT G d (mc, ms) Y2 [a1, a2, a3, a4, a5, a6, a7] M (fun r M' => XJ G (d + 1) (k.1 - mc, k.2 - ms) Y M' lv (rpush r rest) (pc + 3) Q)) : XJ G (d + 1) k Y M lv (a7 :: a6 :: a5 :: a4 :: a3 :: a2 :: a1 :: rest) pc Q :=
  x_callS [a1, a2, a3, a4, a5, a6, a7] hd hL rfl (catS_8 hs) hk rfl hM
theorem x_cSN7 {Y2 : MR} {idx : Nat} {a1 a2 a3 a4 a5 a6 a7 : Value} (hd : decode Y.2.1 pc = .ok (.invokestatic idx, 3)) (hL : LkSN Y.1.cls idx Y2 7) (hs : Nat.ble (catS rest) 8 = true) (hM : CT G d (0, 0) Y2 [a1, a2, a3, a4, a5, a6, a7] M (fun r M' => XJ G (d + 1) k Y M' lv (rpush r rest) (pc + 3) Q)) : XJ G (d + 1) k Y M lv (a7 :: a6 :: a5 :: a4 :: a3 :: a2 :: a1 :: rest) pc Q :=
  x_callSN [a1, a2, a3, a4, a5, a6, a7] hd hL rfl (catS_8 hs) ⟨Nat.zero_le _, Nat.zero_le _⟩ rfl hM
theorem x_rSN7 {Y2 : MR} {idx mc ms : Nat} {a1 a2 a3 a4 a5 a6 a7 : Value} (hd : decode Y.2.1 pc = .ok (.invokestatic idx, 3)) (hL : LkSN Y.1.cls idx Y2 7) (hs : Nat.ble (catS rest) 8 = true) (hk : mc ≤ k.1 ∧ ms ≤ k.2) (hM : CT G d (mc, ms) Y2 [a1, a2, a3, a4, a5, a6, a7] M (fun r M' => XJ G (d + 1) (k.1 - mc, k.2 - ms) Y M' lv (rpush r rest) (pc + 3) Q)) : XJ G (d + 1) k Y M lv (a7 :: a6 :: a5 :: a4 :: a3 :: a2 :: a1 :: rest) pc Q :=
  x_callSN [a1, a2, a3, a4, a5, a6, a7] hd hL rfl (catS_8 hs) hk rfl hM
theorem x_cV7 {Y2 : MR} {idx : Nat} {a1 a2 a3 a4 a5 a6 a7 : Value} {b : Nat} {ci sz : Nat} {f : Nat → Value} {q : vw_C} (hd : decode Y.2.1 pc = .ok (.invokevirtual idx, 3)) (hL : LkV Y.1.cls idx Y2 7) (hb : M b = some (ci, sz, f)) (hq : vwCl[ci]? = some q) (hqc : q.1 = Y2.1.cls) (hs : Nat.ble (catS rest) 8 = true) (hM : CT G d (0, 0) Y2 (.ref b :: [a1, a2, a3, a4, a5, a6, a7]) M (fun r M' => XJ G (d + 1) k Y M' lv (rpush r rest) (pc + 3) Q)) : XJ G (d + 1) k Y M lv (a7 :: a6 :: a5 :: a4 :: a3 :: a2 :: a1 :: .ref b :: rest) pc Q :=
  x_callV [a1, a2, a3, a4, a5, a6, a7] hd hL hb hq hqc rfl (catS_8 hs) ⟨Nat.zero_le _, Nat.zero_le _⟩ rfl hM
theorem x_rV7 {Y2 : MR} {idx mc ms : Nat} {a1 a2 a3 a4 a5 a6 a7 : Value} {b : Nat} {ci sz : Nat} {f : Nat → Value} {q : vw_C} (hd : decode Y.2.1 pc = .ok (.invokevirtual idx, 3)) (hL : LkV Y.1.cls idx Y2 7) (hb : M b = some (ci, sz, f)) (hq : vwCl[ci]? = some q) (hqc : q.1 = Y2.1.cls) (hs : Nat.ble (catS rest) 8 = true) (hk : mc ≤ k.1 ∧ ms ≤ k.2) (hM : CT G d (mc, ms) Y2 (.ref b :: [a1, a2, a3, a4, a5, a6, a7]) M (fun r M' => XJ G (d + 1) (k.1 - mc, k.2 - ms) Y M' lv (rpush r rest) (pc + 3) Q)) : XJ G (d + 1) k Y M lv (a7 :: a6 :: a5 :: a4 :: a3 :: a2 :: a1 :: .ref b :: rest) pc Q :=
  x_callV [a1, a2, a3, a4, a5, a6, a7] hd hL hb hq hqc rfl (catS_8 hs) hk rfl hM
theorem x_cI7 {Y2 : MR} {idx : Nat} {a1 a2 a3 a4 a5 a6 a7 : Value} {b : Nat} (hd : decode Y.2.1 pc = .ok (.invokespecial idx, 3)) (hL : LkI Y.1.cls idx Y2 7) (hr : Y2.2.2.2 = none) (hs : Nat.ble (catS rest) 8 = true) (hM : CT G d (0, 0) Y2 (.ref b :: [a1, a2, a3, a4, a5, a6, a7]) M (fun r M' => XJ G (d + 1) k Y M' lv (rpush r rest) (pc + 3) Q)) : XJ G (d + 1) k Y M lv (a7 :: a6 :: a5 :: a4 :: a3 :: a2 :: a1 :: .ref b :: rest) pc Q :=
  x_callI [a1, a2, a3, a4, a5, a6, a7] hd hL hr rfl (catS_8 hs) ⟨Nat.zero_le _, Nat.zero_le _⟩ rfl hM
theorem x_rI7 {Y2 : MR} {idx mc ms : Nat} {a1 a2 a3 a4 a5 a6 a7 : Value} {b : Nat} (hd : decode Y.2.1 pc = .ok (.invokespecial idx, 3)) (hL : LkI Y.1.cls idx Y2 7) (hr : Y2.2.2.2 = none) (hs : Nat.ble (catS rest) 8 = true) (hk : mc ≤ k.1 ∧ ms ≤ k.2) (hM : CT G d (mc, ms) Y2 (.ref b :: [a1, a2, a3, a4, a5, a6, a7]) M (fun r M' => XJ G (d + 1) (k.1 - mc, k.2 - ms) Y M' lv (rpush r rest) (pc + 3) Q)) : XJ G (d + 1) k Y M lv (a7 :: a6 :: a5 :: a4 :: a3 :: a2 :: a1 :: .ref b :: rest) pc Q :=
  x_callI [a1, a2, a3, a4, a5, a6, a7] hd hL hr rfl (catS_8 hs) hk rfl hM
theorem x_cIN7 {Y2 : MR} {idx : Nat} {a1 a2 a3 a4 a5 a6 a7 : Value} {b : Nat} (hd : decode Y.2.1 pc = .ok (.invokespecial idx, 3)) (hL : LkIN Y.1.cls idx Y2 7) (hr : Y2.2.2.2 = none) (hs : Nat.ble (catS rest) 8 = true) (hM : CT G d (0, 0) Y2 (.ref b :: [a1, a2, a3, a4, a5, a6, a7]) M (fun r M' => XJ G (d + 1) k Y M' lv (rpush r rest) (pc + 3) Q)) : XJ G (d + 1) k Y M lv (a7 :: a6 :: a5 :: a4 :: a3 :: a2 :: a1 :: .ref b :: rest) pc Q :=
  x_callIN [a1, a2, a3, a4, a5, a6, a7] hd hL hr rfl (catS_8 hs) ⟨Nat.zero_le _, Nat.zero_le _⟩ rfl hM
theorem x_rIN7 {Y2 : MR} {idx mc ms : Nat} {a1 a2 a3 a4 a5 a6 a7 : Value} {b : Nat} (hd : decode Y.2.1 pc = .ok (.invokespecial idx, 3)) (hL : LkIN Y.1.cls idx Y2 7) (hr : Y2.2.2.2 = none) (hs : Nat.ble (catS rest) 8 = true) (hk : mc ≤ k.1 ∧ ms ≤ k.2) (hM : CT G d (mc, ms) Y2 (.ref b :: [a1, a2, a3, a4, a5, a6, a7]) M (fun r M' => XJ G (d + 1) (k.1 - mc, k.2 - ms) Y M' lv (rpush r rest) (pc + 3) Q)) : XJ G (d + 1) k Y M lv (a7 :: a6 :: a5 :: a4 :: a3 :: a2 :: a1 :: .ref b :: rest) pc Q :=
  x_callIN [a1, a2, a3, a4, a5, a6, a7] hd hL hr rfl (catS_8 hs) hk rfl hM
end XZ
end
section
/-! cells: fields, arrays, new ones -/
def mset (M : Mem) (a : Nat) (c : Cel) : Mem := fun b => if b = a then some c else M b
theorem mset_eq {M : Mem} {a : Nat} {c : Cel} : mset M a c a = some c := if_pos rfl
theorem mset_ne {M : Mem} {a b : Nat} {c : Cel} (h : b ≠ a) : mset M a c b = M b := if_neg h
theorem updV_eq {f : Nat → Value} {k : Nat} {v : Value} : updV f k v k = v := if_pos rfl
theorem updV_ne {f : Nat → Value} {k j : Nat} {v : Value} (h : j ≠ k) : updV f k v j = f j := if_neg h
def vwTy (ci : Nat) : Nat → FieldType := match ci with
  | 0 => tyJx4a65c
  | 1 => tyX0
  | 2 => tyX1
  | 3 => tyX2
  | 4 => tyX3
  | 5 => tyX4
  | 6 => tyX5
  | 7 => tyX6
  | 8 => tyX7
  | 9 => tyX8
  | 10 => tyX9
  | 11 => tyX10
  | 12 => tyX11
  | _ => tyX12
theorem vw_all {P : Nat → vw_C → Prop} (h0 : P 0 (RJx4a65c, TJx4a65c, 3)) (h1 : P 1 (RX0, TX0, 5)) (h2 : P 2 (RX1, TX1, 7)) (h3 : P 3 (RX2, TX2, 4)) (h4 : P 4 (RX3, TX3, 2)) (h5 : P 5 (RX4, TX4, 4)) (h6 : P 6 (RX5, TX5, 2)) (h7 : P 7 (RX6, TX6, 3)) (h8 : P 8 (RX7, TX7, 3)) (h9 : P 9 (RX8, TX8, 9)) (h10 : P 10 (RX9, TX9, 5)) (h11 : P 11 (RX10, TX10, 3)) (h12 : P 12 (RX11, TX11, 17)) (h13 : P 13 (RX12, TX12, 66)) {ci : Nat} {q : vw_C} (hq : vwCl[ci]? = some q) : P ci q := by
  match ci, hq with
  | 0, hq => cases hq; exact h0
  | 1, hq => cases hq; exact h1
  | 2, hq => cases hq; exact h2
  | 3, hq => cases hq; exact h3
  | 4, hq => cases hq; exact h4
  | 5, hq => cases hq; exact h5
  | 6, hq => cases hq; exact h6
  | 7, hq => cases hq; exact h7
  | 8, hq => cases hq; exact h8
  | 9, hq => cases hq; exact h9
  | 10, hq => cases hq; exact h10
  | 11, hq => cases hq; exact h11
  | 12, hq => cases hq; exact h12
  | 13, hq => cases hq; exact h13
  | ci + 14, hq => simp [vwCl] at hq
theorem vw_lt {ci : Nat} {q : vw_C} (hq : vwCl[ci]? = some q) : ci < 14 := (List.getElem?_eq_some_iff.mp hq).1
theorem vwTy_ok {ci : Nat} {q : vw_C} (hq : vwCl[ci]? = some q) : ∀ k, k < q.2.2 → parseFieldDescriptor (q.2.1 k).2.2.1 = some (vwTy ci k) :=
  vw_all (P := fun ci q => ∀ k, k < q.2.2 → parseFieldDescriptor (q.2.1 k).2.2.1 = some (vwTy ci k)) tyJx4a65c_ok tyX0_ok tyX1_ok tyX2_ok tyX3_ok tyX4_ok tyX5_ok tyX6_ok tyX7_ok tyX8_ok tyX9_ok tyX10_ok tyX11_ok tyX12_ok hq
theorem vwNm_ok {ci : Nat} {q : vw_C} (hq : vwCl[ci]? = some q) : ∀ a, a < q.2.2 → ∀ b, b < q.2.2 → a ≠ b → (q.2.1 a).2.1 ≠ (q.2.1 b).2.1 :=
  vw_all (P := fun _ q => ∀ a, a < q.2.2 → ∀ b, b < q.2.2 → a ≠ b → (q.2.1 a).2.1 ≠ (q.2.1 b).2.1) nmJx4a65c nmX0 nmX1 nmX2 nmX3 nmX4 nmX5 nmX6 nmX7 nmX8 nmX9 nmX10 nmX11 nmX12 hq
theorem tb_r {w : Cond} (h : w ∈ tables_1) : w ∈ lw_tbl := List.mem_append_right _ h
theorem cl_0 : ∀ w ∈ wsJx4a65c0, w ∈ lw_tbl := by decide +kernel
theorem cl_1 : ∀ w ∈ wsX00, w ∈ lw_tbl := by decide +kernel
theorem cl_2 : ∀ w ∈ wsX10, w ∈ lw_tbl := by decide +kernel
theorem cl_3 : ∀ w ∈ wsX20, w ∈ lw_tbl := by decide +kernel
theorem cl_4 : ∀ w ∈ wsX30, w ∈ lw_tbl := by decide +kernel
theorem cl_5 : ∀ w ∈ wsX40, w ∈ lw_tbl := by decide +kernel
theorem cl_6 : ∀ w ∈ wsX50, w ∈ lw_tbl := by decide +kernel
theorem cl_7 : ∀ w ∈ wsX60, w ∈ lw_tbl := by decide +kernel
theorem cl_8 : ∀ w ∈ wsX70, w ∈ lw_tbl := by decide +kernel
theorem cl_9 : ∀ w ∈ wsX80, w ∈ lw_tbl := by decide +kernel
theorem cl_10 : ∀ w ∈ wsX90, w ∈ lw_tbl := by decide +kernel
theorem cl_11 : ∀ w ∈ wsX100, w ∈ lw_tbl := by decide +kernel
theorem cl_12 : ∀ w ∈ wsX110, w ∈ lw_tbl := by decide +kernel
theorem cl_13 : ∀ w ∈ wsX120, w ∈ lw_tbl := by decide +kernel
theorem cl_in {ci : Nat} {q : vw_C} (hq : vwCl[ci]? = some q) : ∀ w ∈ u_ws q.1 q.2.1 q.2.2, w ∈ lw_tbl :=
  vw_all (P := fun _ q => ∀ w ∈ u_ws q.1 q.2.1 q.2.2, w ∈ lw_tbl) cl_0 cl_1 cl_2 cl_3 cl_4 cl_5 cl_6 cl_7 cl_8 cl_9 cl_10 cl_11 cl_12 cl_13 hq
theorem cl_ini {ci : Nat} {q : vw_C} (hq : vwCl[ci]? = some q) : Cond.instantiable q.1 q.2.2 ∈ lw_tbl ∧ Cond.initialized q.1 ∈ lw_tbl :=
  vw_all (P := fun _ q => Cond.instantiable q.1 q.2.2 ∈ lw_tbl ∧ Cond.initialized q.1 ∈ lw_tbl) (by decide +kernel) (by decide +kernel) (by decide +kernel) (by decide +kernel) (by decide +kernel) (by decide +kernel) (by decide +kernel) (by decide +kernel) (by decide +kernel) (by decide +kernel) (by decide +kernel) (by decide +kernel) (by decide +kernel) (by decide +kernel) hq
theorem cl_hts {G : Gam} {args : Array Value} {s : State} (hB : BaseOK G) (hW : G.2.1.WarmedH s.vm) {ci : Nat} {q : vw_C} (hq : vwCl[ci]? = some q) : ∀ w ∈ u_ws q.1 q.2.1 q.2.2, w.before args s = true := by
  intro w hw
  refine tb_good hB (cl_in hq w hw) ?_ hW
  unfold u_ws at hw
  obtain ⟨j, -, rfl⟩ := List.mem_map.mp hw
  unfold u_lay
  split <;> rfl
def LkF (own : String) (idx ci k : Nat) : Prop := ∃ q : vw_C, vwCl[ci]? = some q ∧ k < q.2.2 ∧ (Cond.fieldLink own idx q.1 (q.2.1 k).2.1 (q.2.1 k).2.2.1 ∈ lw_tbl ∨ ∃ host, Cond.fieldLinkNest own idx q.1 (q.2.1 k).2.1 (q.2.1 k).2.2.1 host ∈ lw_tbl) ∧ ((q.2.1 k).1 = q.1 ∨ Cond.sameField q.1 (q.2.1 k).1 (q.2.1 k).2.1 (q.2.1 k).2.2.1 ∈ lw_tbl)
def LkP (own : String) (idx ci k : Nat) : Prop := ∃ q : vw_C, vwCl[ci]? = some q ∧ k < q.2.2 ∧ Cond.fieldLink own idx q.1 (q.2.1 k).2.1 (q.2.1 k).2.2.1 ∈ lw_tbl ∧ ((q.2.1 k).1 = q.1 ∨ Cond.sameField q.1 (q.2.1 k).1 (q.2.1 k).2.1 (q.2.1 k).2.2.1 ∈ lw_tbl) ∧ (q.2.1 k).2.2.2 = false
def LkPF (own : String) (idx ci k : Nat) : Prop := ∃ q : vw_C, vwCl[ci]? = some q ∧ k < q.2.2 ∧ Cond.fieldLink own idx q.1 (q.2.1 k).2.1 (q.2.1 k).2.2.1 ∈ lw_tbl ∧ (q.2.1 k).1 = own ∧ q.1 = own ∧ (q.2.1 k).2.2.2 = true
theorem same_of {G : Gam} {args : Array Value} {s : State} {C O n dd : String} (hB : BaseOK G) (hW : G.2.1.WarmedH s.vm) (h : O = C ∨ Cond.sameField C O n dd ∈ lw_tbl) : ∀ x, s.fieldFound? O n dd = some x → s.fieldFound? C n dd = some x := by
  rcases h with h | h
  · subst h; exact fun _ z => z
  · exact fun x z => u_same (tb_good (args := args) hB h rfl hW) x z
theorem cAt_obj {D : va_G} {tA : Nat → ClassId} {a ci n : Nat} {f : Nat → Value} {H : Heap} {q : vw_C} (h : cAt D tA a (ci, n, f) H) (hq : vwCl[ci]? = some q) : q.2.2 = n ∧ t_OB a (D.1 ci) q.2.2 (D.2 ci) H f := by
  rcases h with ⟨-, q', h1, h2, h3⟩ | ⟨h1, -⟩
  · cases h1.symm.trans hq
    exact ⟨h2, h3⟩
  · exact absurd h1 (by have := vw_lt hq; show ¬ 100 ≤ ci; omega)
theorem cAt_arr {D : va_G} {tA : Nat → ClassId} {a ci n : Nat} {f : Nat → Value} {H : Heap} (h : cAt D tA a (ci, n, f) H) (hq : 100 ≤ ci) : H[a]? = some (arrV (tA ci) n f) := by
  rcases h with ⟨h1, -⟩ | ⟨-, h2⟩
  · exact absurd h1 (by show ¬ ci < 100; omega)
  · exact h2
theorem cAt_lt {D : va_G} {tA : Nat → ClassId} {a : Nat} {c : Cel} {H : Heap} (h : cAt D tA a c H) : a < H.size := by
  rcases h with ⟨-, q, -, -, cell, h, -⟩ | ⟨-, h⟩
  · exact (Array.getElem?_eq_some_iff.mp h).1
  · exact (Array.getElem?_eq_some_iff.mp h).1
theorem cAt_kept {D : va_G} {tA : Nat → ClassId} {a : Nat} {c : Cel} {H H1 : Heap} (h : cAt D tA a c H) (hq : H1[a]? = H[a]?) : cAt D tA a c H1 := by
  rcases h with ⟨h1, q, h2, h3, h4⟩ | ⟨h1, h2⟩
  · exact Or.inl ⟨h1, q, h2, h3, h4.kept hq⟩
  · exact Or.inr ⟨h1, hq.trans h2⟩
theorem arrK_w {G : Gam} (hB : BaseOK G) {s : State} (hW : G.2.1.WarmedH s.vm) {k : Nat} (h1 : 100 ≤ k) (h2 : k < 107) : ArrOfT s (G.2.2.2 k) (tyA k) := arrOfT_moved hW.alike (hB.2.2 k h1 h2).1
/-- the memory behind one cell's change -/
theorem XH_set {G : Gam} {k : Nat × Nat} {M : Mem} {R : Room} {s : State} {A : Nat → Prop} {H H1 : Heap} {locs : List Loc} {cells slots a j : Nat} {c0 c : Cel} (hH : XH G k M R s A H locs cells slots) (hM : M a = some c0) (hz : H1.size = H.size) (hq : ∀ q, q ≠ a → H1[q]? = H[q]?) (hc : cAt G.2.2.1 G.2.2.2 a c H1) : XH G k (mset M a c) R s A H1 (locs ++ [⟨a, j⟩]) cells slots := by
  refine ⟨fun b e he => ?_, fun b e he => ?_, hH.2.2.1.put hz hq (hH.2.1 a c0 hM), hH.2.2.2⟩
  · by_cases hb : b = a
    · subst hb
      rw [mset_eq] at he
      cases he
      exact ⟨(hH.1 b c0 hM).1, hc⟩
    · rw [mset_ne hb] at he
      exact ⟨(hH.1 b e he).1, cAt_kept (hH.1 b e he).2 (hq b hb)⟩
  · by_cases hb : b = a
    · subst hb; exact hH.2.1 b c0 hM
    · rw [mset_ne hb] at he; exact hH.2.1 b e he
/-- the memory behind a new cell -/
theorem XH_new {G : Gam} {k : Nat × Nat} {M : Mem} {R : Room} {s : State} {A : Nat → Prop} {H H1 : Heap} {locs : List Loc} {cells slots mc ms : Nat} {c : Cel} (hO : OldOK G s.heap) (hA : ∀ q, s.heap.size ≤ q → A q) (hH : XH G k M R s A H locs cells slots) (hz : H.size ≤ H1.size) (hq : ∀ q, q < H.size → H1[q]? = H[q]?) (hc : cAt G.2.2.1 G.2.2.2 H.size c H1) (hk : mc ≤ k.1 ∧ ms ≤ k.2) : XH G (k.1 - mc, k.2 - ms) (mset M H.size c) R s A H1 locs (cells + mc) (slots + ms) := by
  refine ⟨fun b e he => ?_, fun b e he => ?_, ⟨Nat.le_trans hH.2.2.1.1 hz, fun q h1 h2 => (hq q (Nat.lt_of_lt_of_le h1 hH.2.2.1.1)).trans (hH.2.2.1.2.1 q h1 h2), hH.2.2.1.2.2⟩, ?_, ?_⟩
  · by_cases hb : b = H.size
    · subst hb
      rw [mset_eq] at he
      cases he
      exact ⟨Nat.le_trans hO.1 hH.2.2.1.1, hc⟩
    · rw [mset_ne hb] at he
      exact ⟨(hH.1 b e he).1, cAt_kept (hH.1 b e he).2 (hq b (cAt_lt (hH.1 b e he).2))⟩
  · by_cases hb : b = H.size
    · subst hb; exact hA _ hH.2.2.1.1
    · rw [mset_ne hb] at he; exact hH.2.1 b e he
  · have := hH.2.2.2.1; show cells + mc + (k.1 - mc) ≤ _; have := hk.1; omega
  · have := hH.2.2.2.2; show slots + ms + (k.2 - ms) ≤ _; have := hk.2; omega
theorem fresh_of {G : Gam} {k : Nat × Nat} {M : Mem} {R : Room} {s : State} {A : Nat → Prop} {H : Heap} {locs : List Loc} {cells slots : Nat} (hH : XH G k M R s A H locs cells slots) : M H.size = none := by
  cases h : M H.size with
  | none => rfl
  | some c => exact absurd (cAt_lt (hH.1 _ c h).2) (Nat.lt_irrefl _)
section XF
variable {G : Gam} {d : Nat} {k : Nat × Nat} {Y : MR} {M : Mem} {lv : Lv} {st : List Value} {pc : Nat} {Q : Option Value → Mem → Prop}
theorem x_getf {idx ci kf n a : Nat} {f : Nat → Value} {v : Value} (hd : decode Y.2.1 pc = .ok (.getfield idx, 3)) (hlk : LkF Y.1.cls idx ci kf) (hM : M a = some (ci, n, f)) (hv : f kf = v) (kk : XJ G d k Y M lv (v :: st) (pc + 3) Q) : XJ G d k Y M lv (.ref a :: st) pc Q := by
  intro p e R s m args below meth c H locs cells slots A ls hC hH hl
  obtain ⟨q, hq, hk, hlink, hsm⟩ := hlk
  have hW := hC.2.2.2.2.2.2.2.2.1
  obtain ⟨-, cell, q1, q2, q3, q4⟩ := cAt_obj (hH.1 a _ hM).2 hq
  obtain ⟨hS, hfc, kC, hkC, hkind⟩ := (bs_K hC.1 hW).1 ci _ hq
  obtain ⟨cf, kf', fi, fd, hi, hsl⟩ := hS kf hk
  have hts := cl_hts (args := args) hC.1 hW hq
  have hst := (u_facts hfc hkC (u_lays hts (fun w h => h) hk) hi).1
  have hslot : cell.slots[fd.slot]? = some v := by rw [hsl, q4 kf hk, hv]
  have hkn : cell.vm ≠ .unknown := by rw [q3]; exact fun h => by cases h
  have hi' := same_of (args := args) hC.1 hW hsm _ hi
  have kk' := kk p e R s m args below meth c H locs cells slots A ls hC hH hl
  rcases hlink with hlink | ⟨host, hlink⟩
  · exact W.getf hC.2.1 hC.2.2.1 hC.2.2.2.2.2.1 (tb_good hC.1 hlink rfl hW) hi' hst q1 hkn hslot rfl rfl hd kk'
  · exact va_Wgetf hC.2.1 hC.2.2.1 hC.2.2.2.2.2.1 (tb_nestF hC.1 hlink hW) hi' hst q1 hkn hslot rfl rfl hd kk'
theorem vw_apart {s : State} {args : Array Value} {D : va_G} {ci : Nat} {q : vw_C} (hq : vwCl[ci]? = some q) (hts : ∀ w ∈ u_ws q.1 q.2.1 q.2.2, w.before args s = true) (hK : va_K D vwCl [] s) : ∀ x y, x < q.2.2 → y < q.2.2 → x ≠ y → D.2 ci x ≠ D.2 ci y :=
  va_apart (own := "") hts (fun w h => h) (vwTy ci) (vwTy_ok hq) (vwNm_ok hq) hK hq
theorem x_putf {idx ci kf n a : Nat} {f : Nat → Value} {v : Value} (hd : decode Y.2.1 pc = .ok (.putfield idx, 3)) (hlk : LkP Y.1.cls idx ci kf) (hM : M a = some (ci, n, f)) (hn : narrow (vwTy ci kf) v = v) (hfit : fits (vwTy ci kf) v = true) (kk : XJ G d k Y (mset M a (ci, n, updV f kf v)) lv st (pc + 3) Q) : XJ G d k Y M lv (v :: .ref a :: st) pc Q := by
  intro p e R s m args below meth c H locs cells slots A ls hC hH hl
  obtain ⟨q, hq, hk, hlink, hsm, hfin⟩ := hlk
  have hW := hC.2.2.2.2.2.2.2.2.1
  obtain ⟨hN, cell, q1, q2, q3, q4⟩ := cAt_obj (hH.1 a _ hM).2 hq
  have hKK := bs_K hC.1 hW
  obtain ⟨hS, hfc, kC, hkC, hkind⟩ := hKK.1 ci _ hq
  obtain ⟨cf, kf', fi, fd, hi, hsl⟩ := hS kf hk
  have hts := cl_hts (args := args) hC.1 hW hq
  have hap := vw_apart hq hts hKK
  have hst := (u_facts hfc hkC (u_lays hts (fun w h => h) hk) hi).1
  have hlay := hts _ (u_in_lay hk)
  unfold u_lay at hlay
  rw [if_neg (by rw [hfin]; decide)] at hlay
  have h6 := u_store hfc hkC hkind hlay hi (vwTy_ok hq kf hk) hn hfit
  refine W.putK hC.2.1 hC.2.2.1 (f := fd) ⟨hC.2.2.2.2.2.1, tb_good hC.1 hlink rfl hW, ⟨_, _, _, same_of (args := args) hC.1 hW hsm _ hi⟩, hst⟩ (by rw [q2]; exact h6) q1 q3 (by rw [hsl]; exact k2_hasslot (q4 kf hk)) rfl rfl hd fun H' e1 e2 e3 => ?_
  rw [hsl] at e1 ⊢
  refine kk p e R s m args below meth c H' _ cells slots A ls hC (XH_set hH hM e2 e3 ?_) hl
  exact Or.inl ⟨Nat.lt_of_lt_of_le (vw_lt hq) (by decide), q, hq, hN, _, e1, q2, q3, t_set q4 hap hk v⟩
theorem x_putF {idx ci kf n a : Nat} {f : Nat → Value} {v : Value} (hd : decode Y.2.1 pc = .ok (.putfield idx, 3)) (hlk : LkPF Y.1.cls idx ci kf) (hini : Y.1.name = "<init>") (hM : M a = some (ci, n, f)) (hn : narrow (vwTy ci kf) v = v) (hfit : fits (vwTy ci kf) v = true) (kk : XJ G d k Y (mset M a (ci, n, updV f kf v)) lv st (pc + 3) Q) : XJ G d k Y M lv (v :: .ref a :: st) pc Q := by
  intro p e R s m args below meth c H locs cells slots A ls hC hH hl
  obtain ⟨q, hq, hk, hlink, hdecl, hown2, hfin⟩ := hlk
  have hW := hC.2.2.2.2.2.2.2.2.1
  obtain ⟨hN, cell, q1, q2, q3, q4⟩ := cAt_obj (hH.1 a _ hM).2 hq
  have hKK := bs_K hC.1 hW
  obtain ⟨hS, hfc, kC, hkC, hkind⟩ := hKK.1 ci _ hq
  obtain ⟨cf, kf', fi, fd, hi, hsl⟩ := hS kf hk
  have hts := cl_hts (args := args) hC.1 hW hq
  have hap := vw_apart hq hts hKK
  have hst := (u_facts hfc hkC (u_lays hts (fun w h => h) hk) hi).1
  have h6 := u_fits hfc hkC hkind (u_lays hts (fun w h => h) hk) hi (vwTy_ok hq kf hk) hn hfit
  have hi' : s.fieldFound? q.1 (q.2.1 kf).2.1 (q.2.1 kf).2.2.1 = some (cf, kf', fi, fd) := by rw [hown2, ← hdecl]; exact hi
  have hlay := hts _ (u_in_lay hk)
  unfold u_lay at hlay
  rw [if_pos hfin] at hlay
  have hcf : m.cls = cf := by
    obtain ⟨_, _, c', _, _, _, -, -, hf', -, -, -, hown3, -⟩ := Cond.laysFinal_spec hlay
    have e1 : c' = cf := by have := hi.symm.trans hf'; simp at this; exact this.1.symm
    rw [hdecl] at hown3
    rw [← e1]; exact Option.some.inj (hC.2.2.2.2.2.1.symm.trans hown3)
  refine W.putFinK hC.2.1 hC.2.2.1 hC.2.2.2.2.2.1 (tb_good hC.1 hlink rfl hW) hi' hst hcf (hC.2.2.2.2.2.2.2.1.trans hini) (by rw [q2]; exact h6) q1 q3 (by rw [hsl]; exact k2_hasslot (q4 kf hk)) rfl rfl hd fun H' e1 e2 e3 => ?_
  rw [hsl] at e1 ⊢
  refine kk p e R s m args below meth c H' _ cells slots A ls hC (XH_set hH hM e2 e3 ?_) hl
  exact Or.inl ⟨Nat.lt_of_lt_of_le (vw_lt hq) (by decide), q, hq, hN, _, e1, q2, q3, t_set q4 hap hk v⟩
end XF
end
section
/-! arrays, new objects, casts, constants, references, switches -/
theorem cb8 (t : FieldType) : componentBytes t ≤ 8 := by cases t <;> simp [componentBytes]
section XA
variable {G : Gam} {d : Nat} {k : Nat × Nat} {Y : MR} {M : Mem} {lv : Lv} {st : List Value} {pc : Nat} {Q : Option Value → Mem → Prop}
theorem arr_in {cA : ClassId} {n : Nat} {f : Nat → Value} {i : Int32} (h : vp_in i n) : ¬ (i < 0 ∨ (arrV cA n f).slots.size ≤ i.toNatClampNeg) := by rw [arrV_size]; exact h
theorem arr_rd {cA : ClassId} {n : Nat} {f : Nat → Value} {i : Int32} {v : Value} (h : vp_in i n) (hv : f i.toNatClampNeg = v) : (arrV cA n f).slots[i.toNatClampNeg]? = some v := by
  rw [arrV_read _ _ (Nat.not_le.mp fun q => h (Or.inr q)), hv]
theorem x_iaload {n a : Nat} {f : Nat → Value} {i : Int32} {v : Value} (hd : decode Y.2.1 pc = .ok (.iaload, 1)) (hM : M a = some (100, n, f)) (hin : vp_in i n) (hv : f i.toNatClampNeg = v) (kk : XJ G d k Y M lv (v :: st) (pc + 1) Q) : XJ G d k Y M lv (.int i :: .ref a :: st) pc Q := by
  intro p e R s m args below meth c H locs cells slots A ls hC hH hl
  have hW := hC.2.2.2.2.2.2.2.2.1
  exact W.iald hC.2.1 hC.2.2.1 (cAt_arr (hH.1 a _ hM).2 (by decide)) ((arrK_w hC.1 hW (k := 100) (by decide) (by decide)) n f) (fun z => by cases z) (arr_in hin) (arr_rd hin hv) rfl rfl hd (kk p e R s m args below meth c H locs cells slots A ls hC hH hl)
theorem x_baload {n a : Nat} {f : Nat → Value} {i : Int32} {v : Value} (hd : decode Y.2.1 pc = .ok (.baload, 1)) (hM : M a = some (101, n, f)) (hin : vp_in i n) (hv : f i.toNatClampNeg = v) (kk : XJ G d k Y M lv (v :: st) (pc + 1) Q) : XJ G d k Y M lv (.int i :: .ref a :: st) pc Q := by
  intro p e R s m args below meth c H locs cells slots A ls hC hH hl
  have hW := hC.2.2.2.2.2.2.2.2.1
  exact W.bald hC.2.1 hC.2.2.1 (cAt_arr (hH.1 a _ hM).2 (by decide)) ((arrK_w hC.1 hW (k := 101) (by decide) (by decide)) n f) (fun z => by cases z) (arr_in hin) (arr_rd hin hv) rfl rfl hd (kk p e R s m args below meth c H locs cells slots A ls hC hH hl)
theorem x_zaload {n a : Nat} {f : Nat → Value} {i : Int32} {v : Value} (hd : decode Y.2.1 pc = .ok (.baload, 1)) (hM : M a = some (103, n, f)) (hin : vp_in i n) (hv : f i.toNatClampNeg = v) (kk : XJ G d k Y M lv (v :: st) (pc + 1) Q) : XJ G d k Y M lv (.int i :: .ref a :: st) pc Q := by
  intro p e R s m args below meth c H locs cells slots A ls hC hH hl
  have hW := hC.2.2.2.2.2.2.2.2.1
  exact W.zald hC.2.1 hC.2.2.1 (cAt_arr (hH.1 a _ hM).2 (by decide)) ((arrK_w hC.1 hW (k := 103) (by decide) (by decide)) n f) (fun z => by cases z) (arr_in hin) (arr_rd hin hv) rfl rfl hd (kk p e R s m args below meth c H locs cells slots A ls hC hH hl)
theorem x_caload {n a : Nat} {f : Nat → Value} {i : Int32} {v : Value} (hd : decode Y.2.1 pc = .ok (.caload, 1)) (hM : M a = some (102, n, f)) (hin : vp_in i n) (hv : f i.toNatClampNeg = v) (kk : XJ G d k Y M lv (v :: st) (pc + 1) Q) : XJ G d k Y M lv (.int i :: .ref a :: st) pc Q := by
  intro p e R s m args below meth c H locs cells slots A ls hC hH hl
  have hW := hC.2.2.2.2.2.2.2.2.1
  exact W.cald hC.2.1 hC.2.2.1 (cAt_arr (hH.1 a _ hM).2 (by decide)) ((arrK_w hC.1 hW (k := 102) (by decide) (by decide)) n f) (fun z => by cases z) (arr_in hin) (arr_rd hin hv) rfl rfl hd (kk p e R s m args below meth c H locs cells slots A ls hC hH hl)
theorem x_laload {n a : Nat} {f : Nat → Value} {i : Int32} {v : Value} (hd : decode Y.2.1 pc = .ok (.laload, 1)) (hM : M a = some (104, n, f)) (hin : vp_in i n) (hv : f i.toNatClampNeg = v) (kk : XJ G d k Y M lv (v :: st) (pc + 1) Q) : XJ G d k Y M lv (.int i :: .ref a :: st) pc Q := by
  intro p e R s m args below meth c H locs cells slots A ls hC hH hl
  have hW := hC.2.2.2.2.2.2.2.2.1
  exact W.lald hC.2.1 hC.2.2.1 (cAt_arr (hH.1 a _ hM).2 (by decide)) ((arrK_w hC.1 hW (k := 104) (by decide) (by decide)) n f) (fun z => by cases z) (arr_in hin) (arr_rd hin hv) rfl rfl hd (kk p e R s m args below meth c H locs cells slots A ls hC hH hl)
theorem x_aaload {n a ci : Nat} {f : Nat → Value} {i : Int32} {v : Value} (hd : decode Y.2.1 pc = .ok (.aaload, 1)) (hci : ci = 105 ∨ ci = 106) (hM : M a = some (ci, n, f)) (hin : vp_in i n) (hv : f i.toNatClampNeg = v) (kk : XJ G d k Y M lv (v :: st) (pc + 1) Q) : XJ G d k Y M lv (.int i :: .ref a :: st) pc Q := by
  intro p e R s m args below meth c H locs cells slots A ls hC hH hl
  have hW := hC.2.2.2.2.2.2.2.2.1
  have h1 : 100 ≤ ci := by omega
  have h2 : ci < 107 := by omega
  have h3 : (tyA ci).isReference = true := by rcases hci with rfl | rfl <;> rfl
  exact W.aald hC.2.1 hC.2.2.1 (cAt_arr (hH.1 a _ hM).2 h1) ((arrK_w hC.1 hW (k := ci) h1 h2) n f) h3 (fun z => by cases z) (arr_in hin) (arr_rd hin hv) rfl rfl hd (kk p e R s m args below meth c H locs cells slots A ls hC hH hl)
theorem arr_st {D : va_G} {tA : Nat → ClassId} {a ci n i : Nat} {f : Nat → Value} {v : Value} {H1 : Heap} (h : 100 ≤ ci) (h1 : H1[a]? = some ((arrV (tA ci) n f).setSlot i v)) : cAt D tA a (ci, n, updV f i v) H1 :=
  Or.inr ⟨h, by rw [h1, arrV_store]⟩
theorem x_iastore {n a : Nat} {f : Nat → Value} {i x : Int32} (hd : decode Y.2.1 pc = .ok (.iastore, 1)) (hM : M a = some (100, n, f)) (hin : vp_in i n) (kk : XJ G d k Y (mset M a (100, n, updV f i.toNatClampNeg (.int x))) lv st (pc + 1) Q) : XJ G d k Y M lv (.int x :: .int i :: .ref a :: st) pc Q := by
  intro p e R s m args below meth c H locs cells slots A ls hC hH hl
  have hW := hC.2.2.2.2.2.2.2.2.1
  exact W.iast hC.2.1 hC.2.2.1 (cAt_arr (hH.1 a _ hM).2 (by decide)) ((arrK_w hC.1 hW (k := 100) (by decide) (by decide)) n f) (fun z => by cases z) (arr_in hin) rfl rfl hd (fun H1 e1 e2 e3 => kk p e R s m args below meth c H1 _ cells slots A ls hC (XH_set hH hM e2 e3 (arr_st (by decide) e1)) hl)
theorem x_bastore {n a : Nat} {f : Nat → Value} {i x : Int32} (hd : decode Y.2.1 pc = .ok (.bastore, 1)) (hM : M a = some (101, n, f)) (hin : vp_in i n) (kk : XJ G d k Y (mset M a (101, n, updV f i.toNatClampNeg (.int x.toInt8.toInt32))) lv st (pc + 1) Q) : XJ G d k Y M lv (.int x :: .int i :: .ref a :: st) pc Q := by
  intro p e R s m args below meth c H locs cells slots A ls hC hH hl
  have hW := hC.2.2.2.2.2.2.2.2.1
  exact W.bast hC.2.1 hC.2.2.1 (cAt_arr (hH.1 a _ hM).2 (by decide)) ((arrK_w hC.1 hW (k := 101) (by decide) (by decide)) n f) (fun z => by cases z) (arr_in hin) rfl rfl hd (fun H1 e1 e2 e3 => kk p e R s m args below meth c H1 _ cells slots A ls hC (XH_set hH hM e2 e3 (arr_st (by decide) e1)) hl)
theorem x_zastore {n a : Nat} {f : Nat → Value} {i x : Int32} (hd : decode Y.2.1 pc = .ok (.bastore, 1)) (hM : M a = some (103, n, f)) (hin : vp_in i n) (kk : XJ G d k Y (mset M a (103, n, updV f i.toNatClampNeg (.int (x &&& 1)))) lv st (pc + 1) Q) : XJ G d k Y M lv (.int x :: .int i :: .ref a :: st) pc Q := by
  intro p e R s m args below meth c H locs cells slots A ls hC hH hl
  have hW := hC.2.2.2.2.2.2.2.2.1
  exact W.zast hC.2.1 hC.2.2.1 (cAt_arr (hH.1 a _ hM).2 (by decide)) ((arrK_w hC.1 hW (k := 103) (by decide) (by decide)) n f) (fun z => by cases z) (arr_in hin) rfl rfl hd (fun H1 e1 e2 e3 => kk p e R s m args below meth c H1 _ cells slots A ls hC (XH_set hH hM e2 e3 (arr_st (by decide) e1)) hl)
theorem x_castore {n a : Nat} {f : Nat → Value} {i x : Int32} (hd : decode Y.2.1 pc = .ok (.castore, 1)) (hM : M a = some (102, n, f)) (hin : vp_in i n) (kk : XJ G d k Y (mset M a (102, n, updV f i.toNatClampNeg (.int x.toUInt32.toUInt16.toUInt32.toInt32))) lv st (pc + 1) Q) : XJ G d k Y M lv (.int x :: .int i :: .ref a :: st) pc Q := by
  intro p e R s m args below meth c H locs cells slots A ls hC hH hl
  have hW := hC.2.2.2.2.2.2.2.2.1
  exact W.cast hC.2.1 hC.2.2.1 (cAt_arr (hH.1 a _ hM).2 (by decide)) ((arrK_w hC.1 hW (k := 102) (by decide) (by decide)) n f) (fun z => by cases z) (arr_in hin) rfl rfl hd (fun H1 e1 e2 e3 => kk p e R s m args below meth c H1 _ cells slots A ls hC (XH_set hH hM e2 e3 (arr_st (by decide) e1)) hl)
theorem x_lastore {n a : Nat} {f : Nat → Value} {i : Int32} {x : Int64} (hd : decode Y.2.1 pc = .ok (.lastore, 1)) (hM : M a = some (104, n, f)) (hin : vp_in i n) (kk : XJ G d k Y (mset M a (104, n, updV f i.toNatClampNeg (.long x))) lv st (pc + 1) Q) : XJ G d k Y M lv (.long x :: .int i :: .ref a :: st) pc Q := by
  intro p e R s m args below meth c H locs cells slots A ls hC hH hl
  have hW := hC.2.2.2.2.2.2.2.2.1
  exact W.last hC.2.1 hC.2.2.1 (cAt_arr (hH.1 a _ hM).2 (by decide)) ((arrK_w hC.1 hW (k := 104) (by decide) (by decide)) n f) (fun z => by cases z) (arr_in hin) rfl rfl hd (fun H1 e1 e2 e3 => kk p e R s m args below meth c H1 _ cells slots A ls hC (XH_set hH hM e2 e3 (arr_st (by decide) e1)) hl)
theorem x_alen {n a ci : Nat} {f : Nat → Value} (hd : decode Y.2.1 pc = .ok (.arraylength, 1)) (h1 : 100 ≤ ci) (h2 : ci < 107) (hM : M a = some (ci, n, f)) (kk : XJ G d k Y M lv (.int (nI n) :: st) (pc + 1) Q) : XJ G d k Y M lv (.ref a :: st) pc Q := by
  intro p e R s m args below meth c H locs cells slots A ls hC hH hl
  have hW := hC.2.2.2.2.2.2.2.2.1
  exact W.alen (n := nI n) hC.2.1 hC.2.2.1 (cAt_arr (hH.1 a _ hM).2 h1) ((arrK_w hC.1 hW (k := ci) h1 h2) n f) (by rw [arrV_size]; rfl) rfl rfl hd (kk p e R s m args below meth c H locs cells slots A ls hC hH hl)
/-- new C: a fresh address -/
theorem x_new {idx ci : Nat} {q : vw_C} (hd : decode Y.2.1 pc = .ok (.new idx, 3)) (hq : vwCl[ci]? = some q) (hcl : Cond.classLink Y.1.cls idx q.1 ∈ lw_tbl) (hk : 1 ≤ k.1 ∧ q.2.2 ≤ k.2) (kk : ∀ h : Nat, M h = none → XJ G d (k.1 - 1, k.2 - q.2.2) Y (mset M h (ci, q.2.2, fun j => defaultValue (vwTy ci j))) lv (.ref h :: st) (pc + 3) Q) : XJ G d k Y M lv st pc Q := by
  intro p e R s m args below meth c H locs cells slots A ls hC hH hl
  have hW := hC.2.2.2.2.2.2.2.2.1
  have hKn := (bs_K hC.1 hW).1 ci _ hq
  have hts := cl_hts (args := args) hC.1 hW hq
  refine W.newcK hC.2.1 hC.2.2.1 hC.2.2.2.2.2.1 (tb_good hC.1 hcl rfl hW) (tb_good hC.1 (cl_ini hq).1 rfl hW) (tb_good hC.1 (cl_ini hq).2 rfl hW) rfl hd (Nat.le_trans (Nat.add_le_add_left hk.1 _) hH.2.2.2.1) (Nat.le_trans (Nat.add_le_add_left hk.2 _) hH.2.2.2.2) hKn.2.1 rfl fun H1 kC hkC e1 z1 o1 => ?_
  refine kk H.size (fresh_of hH) p e R s m args below meth c H1 locs (cells + 1) (slots + q.2.2) A ls hC (XH_new hC.2.2.2.2.2.2.2.2.2.2.2.2.2 hC.2.2.2.2.2.2.2.2.2.2.2.1 hH (by rw [z1]; exact Nat.le_succ _) o1 ?_ hk) hl
  exact Or.inl ⟨Nat.lt_of_lt_of_le (vw_lt hq) (by decide), q, hq, rfl, u_born (vwTy ci) hts (fun w h => h) hKn hkC e1 (vwTy_ok hq)⟩
theorem x_newa {at0 : ArrayType} {ci N : Nat} {i : Int32} (hd : decode Y.2.1 pc = .ok (.newarray at0, 2)) (hty : newarray.typeOf at0 = tyA ci) (h1 : 100 ≤ ci) (h2 : ci < 105) (hw : Cond.arrayClass (newarray.typeOf at0) ∈ lw_tbl) (hn : ¬ i < 0) (hN : i.toNatClampNeg = N) (hb : N ≤ 60000) (hk : 1 ≤ k.1 ∧ N ≤ k.2) (kk : ∀ h : Nat, M h = none → XJ G d (k.1 - 1, k.2 - N) Y (mset M h (ci, N, fun _ => defaultValue (tyA ci))) lv (.ref h :: st) (pc + 2) Q) : XJ G d k Y M lv (.int i :: st) pc Q := by
  intro p e R s m args below meth c H locs cells slots A ls hC hH hl
  have hW := hC.2.2.2.2.2.2.2.2.1
  refine va_newaK hC.2.1 hC.2.2.1 (tb_good hC.1 hw rfl hW) rfl hd rfl hn hN (by rw [hty]; exact Nat.le_trans (Nat.mul_le_mul hb (cb8 (tyA ci))) (by decide)) (Nat.le_trans (Nat.add_le_add_left hk.1 _) hH.2.2.2.1) (Nat.le_trans (Nat.add_le_add_left hk.2 _) hH.2.2.2.2) rfl fun H1 cA e1 z1 o1 hAr hNm => ?_
  have hcA : cA = G.2.2.2 ci := by
    have h9 := (hC.1.2.2 ci h1 (by omega)).2.1
    rw [hty] at hNm
    have h8 : s.vm.findClass ("[" ++ (tyA ci).toString) = some (G.2.2.2 ci) := by rw [hW.alike.findClass]; exact h9
    exact Option.some.inj (hNm.symm.trans h8)
  refine kk H.size (fresh_of hH) p e R s m args below meth c H1 locs (cells + 1) (slots + N) A ls hC (XH_new hC.2.2.2.2.2.2.2.2.2.2.2.2.2 hC.2.2.2.2.2.2.2.2.2.2.2.1 hH (by rw [z1]; exact Nat.le_succ _) o1 ?_ hk) hl
  exact Or.inr ⟨h1, by rw [e1, hcA, hty]⟩
theorem x_objInit {idx a : Nat} (hd : decode Y.2.1 pc = .ok (.invokespecial idx, 3)) (hl1 : Cond.methodLink Y.1.cls idx Lib.objectInit ∈ lw_tbl) (hs : (st.map fun v => v.category).sum ≤ 8) (kk : XJ G (d + 1) k Y M lv st (pc + 3) Q) : XJ G (d + 1) k Y M lv (.ref a :: st) pc Q := by
  intro p e R s m args below meth c H locs cells slots A ls hC hH hl
  have hW := hC.2.2.2.2.2.2.2.2.1
  exact W.objInit hC.2.1 hC.2.2.1 hC.2.2.2.2.2.1 (tb_good hC.1 hl1 rfl hW) (tb_good hC.1 (w := .instanceMethod Lib.objectInit) (by decide +kernel) rfl hW) (tb_good hC.1 (w := .code Lib.objectInit ⟨#[0xb1]⟩ 1 none) (by decide +kernel) rfl hW) rfl (by rw [hC.2.2.2.2.1]; exact hl.1) rfl hd (by rw [hC.2.2.2.2.2.2.2.2.2.1]; omega) (by rw [hC.2.2.2.2.2.2.2.2.2.2.1]; show 2 * 0 + _ + 12 ≤ _; omega) (kk p e R s m args below meth c H locs cells slots A ls hC hH hl)
theorem x_cast {idx a ci n : Nat} {f : Nat → Value} {q : vw_C} (hd : decode Y.2.1 pc = .ok (.checkcast idx, 3)) (hq : vwCl[ci]? = some q) (hcl : Cond.classLink Y.1.cls idx q.1 ∈ lw_tbl) (hM : M a = some (ci, n, f)) (kk : XJ G d k Y M lv (.ref a :: st) (pc + 3) Q) : XJ G d k Y M lv (.ref a :: st) pc Q := by
  intro p e R s m args below meth c H locs cells slots A ls hC hH hl
  have hW := hC.2.2.2.2.2.2.2.2.1
  have hKK := bs_K hC.1 hW
  exact va_castS hC.2.1 hC.2.2.1 hC.2.2.2.2.2.1 (tb_good hC.1 hcl rfl hW) (hKK.1 ci q hq).2 (cAt_recv (hH.1 a _ hM).2 hq hKK) hd (kk p e R s m args below meth c H locs cells slots A ls hC hH hl)
theorem x_ldc {idx : Nat} {v : Int32} (hd : decode Y.2.1 pc = .ok (.ldc idx, 2)) (hw : Cond.constant Y.1.cls idx v ∈ lw_tbl) (kk : XJ G d k Y M lv (.int v :: st) (pc + 2) Q) : XJ G d k Y M lv st pc Q :=
  fun p e R s m args below meth c H locs cells slots A ls hC hH hl => lv_ldc hC.2.1 hC.2.2.1 hC.2.2.2.2.2.1 (tb_good hC.1 hw rfl hC.2.2.2.2.2.2.2.2.1) hd (kk p e R s m args below meth c H locs cells slots A ls hC hH hl)
theorem x_ldcw {idx : Nat} {v : Int32} (hd : decode Y.2.1 pc = .ok (.ldc_w idx, 3)) (hw : Cond.constant Y.1.cls idx v ∈ lw_tbl) (kk : XJ G d k Y M lv (.int v :: st) (pc + 3) Q) : XJ G d k Y M lv st pc Q :=
  fun p e R s m args below meth c H locs cells slots A ls hC hH hl => lv_ldcw hC.2.1 hC.2.2.1 hC.2.2.2.2.2.1 (tb_good hC.1 hw rfl hC.2.2.2.2.2.2.2.2.1) hd (kk p e R s m args below meth c H locs cells slots A ls hC hH hl)
theorem x_ldc2 {idx : Nat} {v : Int64} (hd : decode Y.2.1 pc = .ok (.ldc2_w idx, 3)) (hw : Cond.constantLong Y.1.cls idx v ∈ lw_tbl) (kk : XJ G d k Y M lv (.long v :: st) (pc + 3) Q) : XJ G d k Y M lv st pc Q :=
  fun p e R s m args below meth c H locs cells slots A ls hC hH hl => lv_ldc2 hC.2.1 hC.2.2.1 hC.2.2.2.2.2.1 (tb_good hC.1 hw rfl hC.2.2.2.2.2.2.2.2.1) hd (kk p e R s m args below meth c H locs cells slots A ls hC hH hl)
theorem x_ifnonnull {x : Nat} {off : Int} {tgt : Nat} (hd : decode Y.2.1 pc = .ok (.ifnonnull off, 3)) (ht : (pc : Int) + off = (tgt : Int)) (kk : XJ G d k Y M lv st tgt Q) : XJ G d k Y M lv (.ref x :: st) pc Q :=
  fun p e R s m args below meth c H locs cells slots A ls hC hH hl => lv_ifnonnull hC.2.1 hC.2.2.1 hd ht (kk p e R s m args below meth c H locs cells slots A ls hC hH hl)
theorem x_ifnonnullN {off : Int} (hd : decode Y.2.1 pc = .ok (.ifnonnull off, 3)) (kk : XJ G d k Y M lv st (pc + 3) Q) : XJ G d k Y M lv (.null :: st) pc Q :=
  fun p e R s m args below meth c H locs cells slots A ls hC hH hl => lv_ifnonnullN hC.2.1 hC.2.2.1 hd (kk p e R s m args below meth c H locs cells slots A ls hC hH hl)
theorem x_ifnull {x : Nat} {off : Int} (hd : decode Y.2.1 pc = .ok (.ifnull off, 3)) (kk : XJ G d k Y M lv st (pc + 3) Q) : XJ G d k Y M lv (.ref x :: st) pc Q :=
  fun p e R s m args below meth c H locs cells slots A ls hC hH hl => lv_ifnull hC.2.1 hC.2.2.1 hd (kk p e R s m args below meth c H locs cells slots A ls hC hH hl)
theorem x_ifnullN {off : Int} {tgt : Nat} (hd : decode Y.2.1 pc = .ok (.ifnull off, 3)) (ht : (pc : Int) + off = (tgt : Int)) (kk : XJ G d k Y M lv st tgt Q) : XJ G d k Y M lv (.null :: st) pc Q :=
  fun p e R s m args below meth c H locs cells slots A ls hC hH hl => lv_ifnullN hC.2.1 hC.2.2.1 hd ht (kk p e R s m args below meth c H locs cells slots A ls hC hH hl)
theorem x_acmp_eq {a b : Nat} {off : Int} {tgt : Nat} (hd : decode Y.2.1 pc = .ok (.if_acmp .eq off, 3)) (ht : (pc : Int) + off = (tgt : Int)) (kt : a = b → XJ G d k Y M lv st tgt Q) (kf : ¬ a = b → XJ G d k Y M lv st (pc + 3) Q) : XJ G d k Y M lv (.ref b :: .ref a :: st) pc Q :=
  fun p e R s m args below meth c H locs cells slots A ls hC hH hl => lv_acmp_eq (rx := some a) (ry := some b) hC.2.1 hC.2.2.1 hd ht (fun z => kt (Option.some.inj z) p e R s m args below meth c H locs cells slots A ls hC hH hl) (fun z => kf (fun y => z (by rw [y])) p e R s m args below meth c H locs cells slots A ls hC hH hl)
theorem x_acmp_ne {a b : Nat} {off : Int} {tgt : Nat} (hd : decode Y.2.1 pc = .ok (.if_acmp .ne off, 3)) (ht : (pc : Int) + off = (tgt : Int)) (kt : ¬ a = b → XJ G d k Y M lv st tgt Q) (kf : a = b → XJ G d k Y M lv st (pc + 3) Q) : XJ G d k Y M lv (.ref b :: .ref a :: st) pc Q :=
  fun p e R s m args below meth c H locs cells slots A ls hC hH hl => lv_acmp_ne (rx := some a) (ry := some b) hC.2.1 hC.2.2.1 hd ht (fun z => kt (fun y => z (by rw [y])) p e R s m args below meth c H locs cells slots A ls hC hH hl) (fun z => kf (Option.some.inj z) p e R s m args below meth c H locs cells slots A ls hC hH hl)
theorem x_tableOut {dflt lo hi : Int} {offs : Array Int} {len tgt : Nat} {x : Int32} (hd : decode Y.2.1 pc = .ok (.tableswitch dflt lo hi offs, len)) (h : x.toInt < lo ∨ hi < x.toInt) (ht : (pc : Int) + dflt = (tgt : Int)) (kk : XJ G d k Y M lv st tgt Q) : XJ G d k Y M lv (.int x :: st) pc Q :=
  fun p e R s m args below meth c H locs cells slots A ls hC hH hl => lv_tableOut hC.2.1 hC.2.2.1 hd h ht (kk p e R s m args below meth c H locs cells slots A ls hC hH hl)
theorem x_tableIn {dflt lo hi off : Int} {offs : Array Int} {len tgt : Nat} {x : Int32} (hd : decode Y.2.1 pc = .ok (.tableswitch dflt lo hi offs, len)) (h1 : ¬ x.toInt < lo) (h2 : ¬ hi < x.toInt) (ho : offs[(x.toInt - lo).toNat]? = some off) (ht : (pc : Int) + off = (tgt : Int)) (kk : XJ G d k Y M lv st tgt Q) : XJ G d k Y M lv (.int x :: st) pc Q :=
  fun p e R s m args below meth c H locs cells slots A ls hC hH hl => lv_tableIn hC.2.1 hC.2.2.1 hd h1 h2 ho ht (kk p e R s m args below meth c H locs cells slots A ls hC hH hl)
end XA
/-- down a loop's count -/
theorem loop_up {P : Nat → Prop} {n : Nat} (hn : P n) (hs : ∀ i, i < n → P (i + 1) → P i) : ∀ i, i ≤ n → P i := by
  intro i hi
  obtain ⟨j, rfl⟩ := Nat.exists_eq_add_of_le hi
  induction j generalizing i with
  | zero => exact hn
  | succ j ih => exact hs i (by omega) (by have := ih (i := i + 1) (by rw [show i + 1 + j = i + (j + 1) by omega]; exact hn) (by rw [show i + 1 + j = i + (j + 1) by omega]; exact hs) (by omega); exact this)
theorem loopT {c : Int32} {n : Nat} (h : c = nI n) : c ≤ nI n := by rw [h]; exact Int32.le_refl _
theorem loopF {c : Int32} {n i : Nat} (h : c = nI n) (hi : i < n) (hn : n < 2 ^ 31) : ¬ c ≤ nI i := by rw [h]; exact Int32.not_le.mpr (nI_lt hi hn)
end
section
/-! method records, words by their places, links (printed by walk.py) -/
abbrev MJ6_bitCount_0f7a4 : MR := (yJ6_bitCount_0f7a4, cJ6_bitCount_0f7a4, 1, (some .int))
abbrev MJ9_abs_067f4 : MR := (yJ9_abs_067f4, cJ9_abs_067f4, 2, (some .long))
abbrev MJ9_abs_0f7a4 : MR := (yJ9_abs_0f7a4, cJ9_abs_0f7a4, 1, (some .int))
abbrev MJ9_max_7cf53 : MR := (yJ9_max_7cf53, cJ9_max_7cf53, 2, (some .int))
abbrev MJ9_max_f86c9 : MR := (yJ9_max_f86c9, cJ9_max_f86c9, 4, (some .long))
abbrev MJ9_min_7cf53 : MR := (yJ9_min_7cf53, cJ9_min_7cf53, 2, (some .int))
abbrev MJ9_min_f86c9 : MR := (yJ9_min_f86c9, cJ9_min_f86c9, 4, (some .long))
abbrev MX12_agree : MR := (yX12_agree, cX12_agree, 9, (some .int))
abbrev MX12_alike : MR := (yX12_alike, cX12_alike, 3, (some .int))
abbrev MX12_alikeOf : MR := (yX12_alikeOf, cX12_alikeOf, 6, (some .int))
abbrev MX12_bearers : MR := (yX12_bearers, cX12_bearers, 5, (some .int))
abbrev MX12_buy : MR := (yX12_buy, cX12_buy, 6, (some .int))
abbrev MX12_bytesIn : MR := (yX12_bytesIn, cX12_bytesIn, 3, (some .int))
abbrev MX12_count : MR := (yX12_count, cX12_count, 4, (some .int))
abbrev MX12_days : MR := (yX12_days, cX12_days, 2, (some .int))
abbrev MX12_end : MR := (yX12_end, cX12_end, 2, (some .boolean))
abbrev MX12_feed : MR := (yX12_feed, cX12_feed, 6, (some .int))
abbrev MX12_force : MR := (yX12_force, cX12_force, 3, (some .int))
abbrev MX12_habit : MR := (yX12_habit, cX12_habit, 9, (some .int))
abbrev MX12_happen : MR := (yX12_happen, cX12_happen, 5, (some .boolean))
abbrev MX12_hide : MR := (yX12_hide, cX12_hide, 6, (some .int))
abbrev MX12_isDay : MR := (yX12_isDay, cX12_isDay, 1, (some .boolean))
abbrev MX12_isIn : MR := (yX12_isIn, cX12_isIn, 3, (some .boolean))
abbrev MX12_isKnown : MR := (yX12_isKnown, cX12_isKnown, 2, (some .boolean))
abbrev MX12_isLine : MR := (yX12_isLine, cX12_isLine, 2, (some .boolean))
abbrev MX12_isLineBy : MR := (yX12_isLineBy, cX12_isLineBy, 3, (some .boolean))
abbrev MX12_isPerson : MR := (yX12_isPerson, cX12_isPerson, 2, (some .boolean))
abbrev MX12_isReader : MR := (yX12_isReader, cX12_isReader, 1, (some .boolean))
abbrev MX12_isSort : MR := (yX12_isSort, cX12_isSort, 1, (some .boolean))
abbrev MX12_isStopped : MR := (yX12_isStopped, cX12_isStopped, 4, (some .boolean))
abbrev MX12_judge : MR := (yX12_judge, cX12_judge, 3, (some .int))
abbrev MX12_land : MR := (yX12_land, cX12_land, 4, (some .boolean))
abbrev MX12_last : MR := (yX12_last, cX12_last, 3, (some .int))
abbrev MX12_lastOf : MR := (yX12_lastOf, cX12_lastOf, 5, (some .int))
abbrev MX12_lean : MR := (yX12_lean, cX12_lean, 10, (some .int))
abbrev MX12_line : MR := (yX12_line, cX12_line, 8, (some .int))
abbrev MX12_mark : MR := (yX12_mark, cX12_mark, 4, (some .boolean))
abbrev MX12_markOf : MR := (yX12_markOf, cX12_markOf, 6, (some .int))
abbrev MX12_marked : MR := (yX12_marked, cX12_marked, 4, (some .int))
abbrev MX12_maySee : MR := (yX12_maySee, cX12_maySee, 5, (some .boolean))
abbrev MX12_mood : MR := (yX12_mood, cX12_mood, 7, (some .int))
abbrev MX12_people : MR := (yX12_people, cX12_people, 3, (some .int))
abbrev MX12_person : MR := (yX12_person, cX12_person, 4, (some .int))
abbrev MX12_priceOf : MR := (yX12_priceOf, cX12_priceOf, 4, (some .int))
abbrev MX12_put : MR := (yX12_put, cX12_put, 3, none)
abbrev MX12_question : MR := (yX12_question, cX12_question, 3, (some .int))
abbrev MX12_ruleOn : MR := (yX12_ruleOn, cX12_ruleOn, 5, (some .int))
abbrev MX12_sortsOf : MR := (yX12_sortsOf, cX12_sortsOf, 4, (some .int))
abbrev MX12_stop : MR := (yX12_stop, cX12_stop, 3, (some .boolean))
abbrev MX12_stopped : MR := (yX12_stopped, cX12_stopped, 3, (some .int))
abbrev MX12_stopsFrom : MR := (yX12_stopsFrom, cX12_stopsFrom, 5, (some .int))
abbrev MX12_stratum : MR := (yX12_stratum, cX12_stratum, 2, (some .int))
abbrev MX12_table : MR := (yX12_table, cX12_table, 2, (some .int))
abbrev MX12_thrown : MR := (yX12_thrown, cX12_thrown, 1, (some .int))
abbrev MX12_told : MR := (yX12_told, cX12_told, 3, (some .int))
abbrev MX12_truth : MR := (yX12_truth, cX12_truth, 5, (some .int))
abbrev MX12_tryTable : MR := (yX12_tryTable, cX12_tryTable, 4, none)
abbrev MX12_want : MR := (yX12_want, cX12_want, 3, (some .int))
abbrev MX12_watcher : MR := (yX12_watcher, cX12_watcher, 3, (some .int))
abbrev MX12_wordOf : MR := (yX12_wordOf, cX12_wordOf, 6, (some .int))
theorem tb10 : (Cond.initialized "DiaryHouseModel") ∈ lw_tbl := tb_r (List.mem_of_getElem? (i := 10) (by decide +kernel))
theorem tb13 : (Cond.initialized "java/lang/Math") ∈ lw_tbl := tb_r (List.mem_of_getElem? (i := 13) (by decide +kernel))
theorem tb30 : (Cond.initialized "java/lang/Integer") ∈ lw_tbl := tb_r (List.mem_of_getElem? (i := 30) (by decide +kernel))
theorem tb753 : (Cond.static ({ cls := "java/lang/Math", name := "abs", desc := "(I)I" } : MethodName)) ∈ lw_tbl := tb_r (List.mem_of_getElem? (i := 753) (by decide +kernel))
theorem tb754 : (Cond.code ({ cls := "java/lang/Math", name := "abs", desc := "(I)I" } : MethodName) prog_23_method_59_code (1 : Nat) (Option.some FieldType.int)) ∈ lw_tbl := tb_r (List.mem_of_getElem? (i := 754) (by decide +kernel))
theorem tb1054 : (Cond.static ({ cls := "java/lang/Integer", name := "bitCount", desc := "(I)I" } : MethodName)) ∈ lw_tbl := tb_r (List.mem_of_getElem? (i := 1054) (by decide +kernel))
theorem tb1055 : (Cond.code ({ cls := "java/lang/Integer", name := "bitCount", desc := "(I)I" } : MethodName) prog_21_method_49_code (1 : Nat) (Option.some FieldType.int)) ∈ lw_tbl := tb_r (List.mem_of_getElem? (i := 1055) (by decide +kernel))
theorem tb1056 : (Cond.constant "java/lang/Integer" (265 : Nat) (1431655765 : Int32)) ∈ lw_tbl := tb_r (List.mem_of_getElem? (i := 1056) (by decide +kernel))
theorem tb1057 : (Cond.constant "java/lang/Integer" (266 : Nat) (858993459 : Int32)) ∈ lw_tbl := tb_r (List.mem_of_getElem? (i := 1057) (by decide +kernel))
theorem tb1058 : (Cond.constant "java/lang/Integer" (267 : Nat) (252645135 : Int32)) ∈ lw_tbl := tb_r (List.mem_of_getElem? (i := 1058) (by decide +kernel))
theorem tb1183 : (Cond.fieldLink "DiaryHouseModel" (138 : Nat) "DiaryHouseModel" "thrown" "I") ∈ lw_tbl := tb_r (List.mem_of_getElem? (i := 1183) (by decide +kernel))
theorem tb1184 : (Cond.fieldLink "DiaryHouseModel" (142 : Nat) "DiaryHouseModel" "now" "I") ∈ lw_tbl := tb_r (List.mem_of_getElem? (i := 1184) (by decide +kernel))
theorem tb1185 : (Cond.fieldLink "DiaryHouseModel" (9 : Nat) "DiaryHouseModel" "place" "[I") ∈ lw_tbl := tb_r (List.mem_of_getElem? (i := 1185) (by decide +kernel))
theorem tb1186 : (Cond.fieldLink "DiaryHouseModel" (13 : Nat) "DiaryHouseModel" "age" "[I") ∈ lw_tbl := tb_r (List.mem_of_getElem? (i := 1186) (by decide +kernel))
theorem tb1187 : (Cond.fieldLink "DiaryHouseModel" (16 : Nat) "DiaryHouseModel" "work" "[I") ∈ lw_tbl := tb_r (List.mem_of_getElem? (i := 1187) (by decide +kernel))
theorem tb1188 : (Cond.fieldLink "DiaryHouseModel" (19 : Nat) "DiaryHouseModel" "stopOf" "[I") ∈ lw_tbl := tb_r (List.mem_of_getElem? (i := 1188) (by decide +kernel))
theorem tb1189 : (Cond.fieldLink "DiaryHouseModel" (22 : Nat) "DiaryHouseModel" "stopDay" "[I") ∈ lw_tbl := tb_r (List.mem_of_getElem? (i := 1189) (by decide +kernel))
theorem tb1190 : (Cond.fieldLink "DiaryHouseModel" (25 : Nat) "DiaryHouseModel" "stopTold" "[I") ∈ lw_tbl := tb_r (List.mem_of_getElem? (i := 1190) (by decide +kernel))
theorem tb1191 : (Cond.fieldLink "DiaryHouseModel" (28 : Nat) "DiaryHouseModel" "lineOf" "[I") ∈ lw_tbl := tb_r (List.mem_of_getElem? (i := 1191) (by decide +kernel))
theorem tb1192 : (Cond.fieldLink "DiaryHouseModel" (31 : Nat) "DiaryHouseModel" "lineDay" "[I") ∈ lw_tbl := tb_r (List.mem_of_getElem? (i := 1192) (by decide +kernel))
theorem tb1193 : (Cond.fieldLink "DiaryHouseModel" (34 : Nat) "DiaryHouseModel" "lineSort" "[I") ∈ lw_tbl := tb_r (List.mem_of_getElem? (i := 1193) (by decide +kernel))
theorem tb1194 : (Cond.fieldLink "DiaryHouseModel" (37 : Nat) "DiaryHouseModel" "lineMood" "[I") ∈ lw_tbl := tb_r (List.mem_of_getElem? (i := 1194) (by decide +kernel))
theorem tb1195 : (Cond.fieldLink "DiaryHouseModel" (40 : Nat) "DiaryHouseModel" "lineSaying" "[I") ∈ lw_tbl := tb_r (List.mem_of_getElem? (i := 1195) (by decide +kernel))
theorem tb1196 : (Cond.fieldLink "DiaryHouseModel" (43 : Nat) "DiaryHouseModel" "lineFrom" "[I") ∈ lw_tbl := tb_r (List.mem_of_getElem? (i := 1196) (by decide +kernel))
theorem tb1197 : (Cond.fieldLink "DiaryHouseModel" (46 : Nat) "DiaryHouseModel" "lineTold" "[I") ∈ lw_tbl := tb_r (List.mem_of_getElem? (i := 1197) (by decide +kernel))
theorem tb1198 : (Cond.fieldLink "DiaryHouseModel" (149 : Nat) "DiaryHouseModel" "persons" "I") ∈ lw_tbl := tb_r (List.mem_of_getElem? (i := 1198) (by decide +kernel))
theorem tb1199 : (Cond.fieldLink "DiaryHouseModel" (152 : Nat) "DiaryHouseModel" "lines" "I") ∈ lw_tbl := tb_r (List.mem_of_getElem? (i := 1199) (by decide +kernel))
theorem tb1200 : (Cond.fieldLink "DiaryHouseModel" (162 : Nat) "DiaryHouseModel" "stops" "I") ∈ lw_tbl := tb_r (List.mem_of_getElem? (i := 1200) (by decide +kernel))
theorem tb1201 : (Cond.fieldLink "DiaryHouseModel" (49 : Nat) "DiaryHouseModel" "tape" "[B") ∈ lw_tbl := tb_r (List.mem_of_getElem? (i := 1201) (by decide +kernel))
theorem tb1204 : (Cond.fieldLink "DiaryHouseModel" (59 : Nat) "DiaryHouseModel" "ruleFrom" "[I") ∈ lw_tbl := tb_r (List.mem_of_getElem? (i := 1204) (by decide +kernel))
theorem tb1205 : (Cond.fieldLink "DiaryHouseModel" (62 : Nat) "DiaryHouseModel" "ruleTold" "[I") ∈ lw_tbl := tb_r (List.mem_of_getElem? (i := 1205) (by decide +kernel))
theorem tb1207 : (Cond.fieldLink "DiaryHouseModel" (178 : Nat) "DiaryHouseModel" "length" "I") ∈ lw_tbl := tb_r (List.mem_of_getElem? (i := 1207) (by decide +kernel))
theorem tb1208 : (Cond.fieldLink "DiaryHouseModel" (289 : Nat) "DiaryHouseModel" "rules" "I") ∈ lw_tbl := tb_r (List.mem_of_getElem? (i := 1208) (by decide +kernel))
theorem tb1221 : (Cond.fieldLink "DiaryHouseModel" (74 : Nat) "DiaryHouseModel" "happenPlace" "[I") ∈ lw_tbl := tb_r (List.mem_of_getElem? (i := 1221) (by decide +kernel))
theorem tb1222 : (Cond.fieldLink "DiaryHouseModel" (77 : Nat) "DiaryHouseModel" "happenDay" "[I") ∈ lw_tbl := tb_r (List.mem_of_getElem? (i := 1222) (by decide +kernel))
theorem tb1223 : (Cond.fieldLink "DiaryHouseModel" (80 : Nat) "DiaryHouseModel" "happenSort" "[I") ∈ lw_tbl := tb_r (List.mem_of_getElem? (i := 1223) (by decide +kernel))
theorem tb1224 : (Cond.fieldLink "DiaryHouseModel" (83 : Nat) "DiaryHouseModel" "happenTold" "[I") ∈ lw_tbl := tb_r (List.mem_of_getElem? (i := 1224) (by decide +kernel))
theorem tb1225 : (Cond.fieldLink "DiaryHouseModel" (86 : Nat) "DiaryHouseModel" "happened" "[Z") ∈ lw_tbl := tb_r (List.mem_of_getElem? (i := 1225) (by decide +kernel))
theorem tb1227 : (Cond.fieldLink "DiaryHouseModel" (329 : Nat) "DiaryHouseModel" "happenings" "I") ∈ lw_tbl := tb_r (List.mem_of_getElem? (i := 1227) (by decide +kernel))
theorem tb1228 : (Cond.fieldLink "DiaryHouseModel" (93 : Nat) "DiaryHouseModel" "markReader" "[I") ∈ lw_tbl := tb_r (List.mem_of_getElem? (i := 1228) (by decide +kernel))
theorem tb1229 : (Cond.fieldLink "DiaryHouseModel" (96 : Nat) "DiaryHouseModel" "markLine" "[I") ∈ lw_tbl := tb_r (List.mem_of_getElem? (i := 1229) (by decide +kernel))
theorem tb1230 : (Cond.fieldLink "DiaryHouseModel" (99 : Nat) "DiaryHouseModel" "markIs" "[I") ∈ lw_tbl := tb_r (List.mem_of_getElem? (i := 1230) (by decide +kernel))
theorem tb1231 : (Cond.fieldLink "DiaryHouseModel" (102 : Nat) "DiaryHouseModel" "markTold" "[I") ∈ lw_tbl := tb_r (List.mem_of_getElem? (i := 1231) (by decide +kernel))
theorem tb1232 : (Cond.fieldLink "DiaryHouseModel" (335 : Nat) "DiaryHouseModel" "marks" "I") ∈ lw_tbl := tb_r (List.mem_of_getElem? (i := 1232) (by decide +kernel))
theorem tb1233 : (Cond.fieldLink "DiaryHouseModel" (105 : Nat) "DiaryHouseModel" "land" "[I") ∈ lw_tbl := tb_r (List.mem_of_getElem? (i := 1233) (by decide +kernel))
theorem tb1236 : (Cond.fieldLink "DiaryHouseModel" (111 : Nat) "DiaryHouseModel" "watchFrom" "[I") ∈ lw_tbl := tb_r (List.mem_of_getElem? (i := 1236) (by decide +kernel))
theorem tb1237 : (Cond.fieldLink "DiaryHouseModel" (114 : Nat) "DiaryHouseModel" "watchTo" "[I") ∈ lw_tbl := tb_r (List.mem_of_getElem? (i := 1237) (by decide +kernel))
theorem tb1238 : (Cond.fieldLink "DiaryHouseModel" (117 : Nat) "DiaryHouseModel" "wantPlace" "[I") ∈ lw_tbl := tb_r (List.mem_of_getElem? (i := 1238) (by decide +kernel))
theorem tb1239 : (Cond.fieldLink "DiaryHouseModel" (120 : Nat) "DiaryHouseModel" "wantHour" "[I") ∈ lw_tbl := tb_r (List.mem_of_getElem? (i := 1239) (by decide +kernel))
theorem tb1240 : (Cond.fieldLink "DiaryHouseModel" (123 : Nat) "DiaryHouseModel" "tried" "[I") ∈ lw_tbl := tb_r (List.mem_of_getElem? (i := 1240) (by decide +kernel))
theorem tb1241 : (Cond.fieldLink "DiaryHouseModel" (126 : Nat) "DiaryHouseModel" "bestTable" "[I") ∈ lw_tbl := tb_r (List.mem_of_getElem? (i := 1241) (by decide +kernel))
theorem tb1242 : (Cond.fieldLink "DiaryHouseModel" (369 : Nat) "DiaryHouseModel" "watchers" "I") ∈ lw_tbl := tb_r (List.mem_of_getElem? (i := 1242) (by decide +kernel))
theorem tb1243 : (Cond.fieldLink "DiaryHouseModel" (372 : Nat) "DiaryHouseModel" "wanted" "I") ∈ lw_tbl := tb_r (List.mem_of_getElem? (i := 1243) (by decide +kernel))
theorem tb1244 : (Cond.fieldLink "DiaryHouseModel" (375 : Nat) "DiaryHouseModel" "bestSeen" "I") ∈ lw_tbl := tb_r (List.mem_of_getElem? (i := 1244) (by decide +kernel))
theorem tb1245 : (Cond.fieldLink "DiaryHouseModel" (129 : Nat) "DiaryHouseModel" "price" "[I") ∈ lw_tbl := tb_r (List.mem_of_getElem? (i := 1245) (by decide +kernel))
theorem tb1246 : (Cond.fieldLink "DiaryHouseModel" (132 : Nat) "DiaryHouseModel" "tells" "[I") ∈ lw_tbl := tb_r (List.mem_of_getElem? (i := 1246) (by decide +kernel))
theorem tb1248 : (Cond.fieldLink "DiaryHouseModel" (393 : Nat) "DiaryHouseModel" "questions" "I") ∈ lw_tbl := tb_r (List.mem_of_getElem? (i := 1248) (by decide +kernel))
theorem tb1391 : (Cond.methodLink "DiaryHouseModel" (145 : Nat) ({ cls := "DiaryHouseModel", name := "isIn", desc := "(III)Z" } : MethodName)) ∈ lw_tbl := tb_r (List.mem_of_getElem? (i := 1391) (by decide +kernel))
theorem tb1392 : (Cond.static ({ cls := "DiaryHouseModel", name := "isIn", desc := "(III)Z" } : MethodName)) ∈ lw_tbl := tb_r (List.mem_of_getElem? (i := 1392) (by decide +kernel))
theorem tb1393 : (Cond.code ({ cls := "DiaryHouseModel", name := "isIn", desc := "(III)Z" } : MethodName) prog_14_method_3_code (3 : Nat) (Option.some FieldType.boolean)) ∈ lw_tbl := tb_r (List.mem_of_getElem? (i := 1393) (by decide +kernel))
theorem tb1402 : (Cond.methodLink "DiaryHouseModel" (165 : Nat) ({ cls := "DiaryHouseModel", name := "isPerson", desc := "(I)Z" } : MethodName)) ∈ lw_tbl := tb_r (List.mem_of_getElem? (i := 1402) (by decide +kernel))
theorem tb1404 : (Cond.instanceMethod ({ cls := "DiaryHouseModel", name := "isPerson", desc := "(I)Z" } : MethodName)) ∈ lw_tbl := tb_r (List.mem_of_getElem? (i := 1404) (by decide +kernel))
theorem tb1405 : (Cond.code ({ cls := "DiaryHouseModel", name := "isPerson", desc := "(I)Z" } : MethodName) prog_14_method_8_code (2 : Nat) (Option.some FieldType.boolean)) ∈ lw_tbl := tb_r (List.mem_of_getElem? (i := 1405) (by decide +kernel))
theorem tb1406 : (Cond.methodLink "DiaryHouseModel" (168 : Nat) ({ cls := "DiaryHouseModel", name := "isSort", desc := "(I)Z" } : MethodName)) ∈ lw_tbl := tb_r (List.mem_of_getElem? (i := 1406) (by decide +kernel))
theorem tb1407 : (Cond.static ({ cls := "DiaryHouseModel", name := "isSort", desc := "(I)Z" } : MethodName)) ∈ lw_tbl := tb_r (List.mem_of_getElem? (i := 1407) (by decide +kernel))
theorem tb1408 : (Cond.code ({ cls := "DiaryHouseModel", name := "isSort", desc := "(I)Z" } : MethodName) prog_14_method_6_code (1 : Nat) (Option.some FieldType.boolean)) ∈ lw_tbl := tb_r (List.mem_of_getElem? (i := 1408) (by decide +kernel))
theorem tb1409 : (Cond.methodLink "DiaryHouseModel" (171 : Nat) ({ cls := "DiaryHouseModel", name := "stopsFrom", desc := "(II)I" } : MethodName)) ∈ lw_tbl := tb_r (List.mem_of_getElem? (i := 1409) (by decide +kernel))
theorem tb1411 : (Cond.instanceMethod ({ cls := "DiaryHouseModel", name := "stopsFrom", desc := "(II)I" } : MethodName)) ∈ lw_tbl := tb_r (List.mem_of_getElem? (i := 1411) (by decide +kernel))
theorem tb1412 : (Cond.code ({ cls := "DiaryHouseModel", name := "stopsFrom", desc := "(II)I" } : MethodName) prog_14_method_13_code (5 : Nat) (Option.some FieldType.int)) ∈ lw_tbl := tb_r (List.mem_of_getElem? (i := 1412) (by decide +kernel))
theorem tb1417 : (Cond.methodLink "DiaryHouseModel" (155 : Nat) ({ cls := "DiaryHouseModel", name := "isLine", desc := "(I)Z" } : MethodName)) ∈ lw_tbl := tb_r (List.mem_of_getElem? (i := 1417) (by decide +kernel))
theorem tb1419 : (Cond.instanceMethod ({ cls := "DiaryHouseModel", name := "isLine", desc := "(I)Z" } : MethodName)) ∈ lw_tbl := tb_r (List.mem_of_getElem? (i := 1419) (by decide +kernel))
theorem tb1420 : (Cond.code ({ cls := "DiaryHouseModel", name := "isLine", desc := "(I)Z" } : MethodName) prog_14_method_9_code (2 : Nat) (Option.some FieldType.boolean)) ∈ lw_tbl := tb_r (List.mem_of_getElem? (i := 1420) (by decide +kernel))
theorem tb1425 : (Cond.methodLink "DiaryHouseModel" (175 : Nat) ({ cls := "DiaryHouseModel", name := "isDay", desc := "(I)Z" } : MethodName)) ∈ lw_tbl := tb_r (List.mem_of_getElem? (i := 1425) (by decide +kernel))
theorem tb1426 : (Cond.static ({ cls := "DiaryHouseModel", name := "isDay", desc := "(I)Z" } : MethodName)) ∈ lw_tbl := tb_r (List.mem_of_getElem? (i := 1426) (by decide +kernel))
theorem tb1427 : (Cond.code ({ cls := "DiaryHouseModel", name := "isDay", desc := "(I)Z" } : MethodName) prog_14_method_5_code (1 : Nat) (Option.some FieldType.boolean)) ∈ lw_tbl := tb_r (List.mem_of_getElem? (i := 1427) (by decide +kernel))
theorem tb1432 : (Cond.methodLink "DiaryHouseModel" (159 : Nat) ({ cls := "DiaryHouseModel", name := "isKnown", desc := "(I)Z" } : MethodName)) ∈ lw_tbl := tb_r (List.mem_of_getElem? (i := 1432) (by decide +kernel))
theorem tb1434 : (Cond.instanceMethod ({ cls := "DiaryHouseModel", name := "isKnown", desc := "(I)Z" } : MethodName)) ∈ lw_tbl := tb_r (List.mem_of_getElem? (i := 1434) (by decide +kernel))
theorem tb1435 : (Cond.code ({ cls := "DiaryHouseModel", name := "isKnown", desc := "(I)Z" } : MethodName) prog_14_method_4_code (2 : Nat) (Option.some FieldType.boolean)) ∈ lw_tbl := tb_r (List.mem_of_getElem? (i := 1435) (by decide +kernel))
theorem tb1440 : (Cond.methodLink "DiaryHouseModel" (181 : Nat) ({ cls := "DiaryHouseModel", name := "bytesIn", desc := "(I)I" } : MethodName)) ∈ lw_tbl := tb_r (List.mem_of_getElem? (i := 1440) (by decide +kernel))
theorem tb1441 : (Cond.static ({ cls := "DiaryHouseModel", name := "bytesIn", desc := "(I)I" } : MethodName)) ∈ lw_tbl := tb_r (List.mem_of_getElem? (i := 1441) (by decide +kernel))
theorem tb1442 : (Cond.code ({ cls := "DiaryHouseModel", name := "bytesIn", desc := "(I)I" } : MethodName) prog_14_method_18_code (3 : Nat) (Option.some FieldType.int)) ∈ lw_tbl := tb_r (List.mem_of_getElem? (i := 1442) (by decide +kernel))
theorem tb1443 : (Cond.methodLink "DiaryHouseModel" (185 : Nat) ({ cls := "DiaryHouseModel", name := "put", desc := "(I)V" } : MethodName)) ∈ lw_tbl := tb_r (List.mem_of_getElem? (i := 1443) (by decide +kernel))
theorem tb1445 : (Cond.instanceMethod ({ cls := "DiaryHouseModel", name := "put", desc := "(I)V" } : MethodName)) ∈ lw_tbl := tb_r (List.mem_of_getElem? (i := 1445) (by decide +kernel))
theorem tb1446 : (Cond.code ({ cls := "DiaryHouseModel", name := "put", desc := "(I)V" } : MethodName) prog_14_method_19_code (3 : Nat) (Option.none : Option FieldType)) ∈ lw_tbl := tb_r (List.mem_of_getElem? (i := 1446) (by decide +kernel))
theorem tb1532 : (Cond.methodLink "DiaryHouseModel" (292 : Nat) ({ cls := "DiaryHouseModel", name := "ruleOn", desc := "(II)I" } : MethodName)) ∈ lw_tbl := tb_r (List.mem_of_getElem? (i := 1532) (by decide +kernel))
theorem tb1534 : (Cond.instanceMethod ({ cls := "DiaryHouseModel", name := "ruleOn", desc := "(II)I" } : MethodName)) ∈ lw_tbl := tb_r (List.mem_of_getElem? (i := 1534) (by decide +kernel))
theorem tb1535 : (Cond.code ({ cls := "DiaryHouseModel", name := "ruleOn", desc := "(II)I" } : MethodName) prog_14_method_40_code (5 : Nat) (Option.some FieldType.int)) ∈ lw_tbl := tb_r (List.mem_of_getElem? (i := 1535) (by decide +kernel))
theorem tb1556 : (Cond.methodLink "DiaryHouseModel" (305 : Nat) ({ cls := "DiaryHouseModel", name := "isLineBy", desc := "(II)Z" } : MethodName)) ∈ lw_tbl := tb_r (List.mem_of_getElem? (i := 1556) (by decide +kernel))
theorem tb1558 : (Cond.instanceMethod ({ cls := "DiaryHouseModel", name := "isLineBy", desc := "(II)Z" } : MethodName)) ∈ lw_tbl := tb_r (List.mem_of_getElem? (i := 1558) (by decide +kernel))
theorem tb1559 : (Cond.code ({ cls := "DiaryHouseModel", name := "isLineBy", desc := "(II)Z" } : MethodName) prog_14_method_10_code (3 : Nat) (Option.some FieldType.boolean)) ∈ lw_tbl := tb_r (List.mem_of_getElem? (i := 1559) (by decide +kernel))
theorem tb1574 : (Cond.methodLink "DiaryHouseModel" (323 : Nat) ({ cls := "java/lang/Math", name := "abs", desc := "(I)I" } : MethodName)) ∈ lw_tbl := tb_r (List.mem_of_getElem? (i := 1574) (by decide +kernel))
theorem tb1591 : (Cond.methodLink "DiaryHouseModel" (332 : Nat) ({ cls := "DiaryHouseModel", name := "wordOf", desc := "(III)I" } : MethodName)) ∈ lw_tbl := tb_r (List.mem_of_getElem? (i := 1591) (by decide +kernel))
theorem tb1593 : (Cond.instanceMethod ({ cls := "DiaryHouseModel", name := "wordOf", desc := "(III)I" } : MethodName)) ∈ lw_tbl := tb_r (List.mem_of_getElem? (i := 1593) (by decide +kernel))
theorem tb1594 : (Cond.code ({ cls := "DiaryHouseModel", name := "wordOf", desc := "(III)I" } : MethodName) prog_14_method_53_code (6 : Nat) (Option.some FieldType.int)) ∈ lw_tbl := tb_r (List.mem_of_getElem? (i := 1594) (by decide +kernel))
theorem tb1603 : (Cond.methodLink "DiaryHouseModel" (338 : Nat) ({ cls := "DiaryHouseModel", name := "isReader", desc := "(I)Z" } : MethodName)) ∈ lw_tbl := tb_r (List.mem_of_getElem? (i := 1603) (by decide +kernel))
theorem tb1604 : (Cond.static ({ cls := "DiaryHouseModel", name := "isReader", desc := "(I)Z" } : MethodName)) ∈ lw_tbl := tb_r (List.mem_of_getElem? (i := 1604) (by decide +kernel))
theorem tb1605 : (Cond.code ({ cls := "DiaryHouseModel", name := "isReader", desc := "(I)Z" } : MethodName) prog_14_method_56_code (1 : Nat) (Option.some FieldType.boolean)) ∈ lw_tbl := tb_r (List.mem_of_getElem? (i := 1605) (by decide +kernel))
theorem tb1610 : (Cond.methodLink "DiaryHouseModel" (341 : Nat) ({ cls := "DiaryHouseModel", name := "markOf", desc := "(III)I" } : MethodName)) ∈ lw_tbl := tb_r (List.mem_of_getElem? (i := 1610) (by decide +kernel))
theorem tb1612 : (Cond.instanceMethod ({ cls := "DiaryHouseModel", name := "markOf", desc := "(III)I" } : MethodName)) ∈ lw_tbl := tb_r (List.mem_of_getElem? (i := 1612) (by decide +kernel))
theorem tb1613 : (Cond.code ({ cls := "DiaryHouseModel", name := "markOf", desc := "(III)I" } : MethodName) prog_14_method_58_code (6 : Nat) (Option.some FieldType.int)) ∈ lw_tbl := tb_r (List.mem_of_getElem? (i := 1613) (by decide +kernel))
theorem tb1622 : (Cond.constant "DiaryHouseModel" (344 : Nat) (-1000000 : Int32)) ∈ lw_tbl := tb_r (List.mem_of_getElem? (i := 1622) (by decide +kernel))
theorem tb1635 : (Cond.methodLink "DiaryHouseModel" (345 : Nat) ({ cls := "DiaryHouseModel", name := "people", desc := "()I" } : MethodName)) ∈ lw_tbl := tb_r (List.mem_of_getElem? (i := 1635) (by decide +kernel))
theorem tb1637 : (Cond.instanceMethod ({ cls := "DiaryHouseModel", name := "people", desc := "()I" } : MethodName)) ∈ lw_tbl := tb_r (List.mem_of_getElem? (i := 1637) (by decide +kernel))
theorem tb1638 : (Cond.code ({ cls := "DiaryHouseModel", name := "people", desc := "()I" } : MethodName) prog_14_method_64_code (3 : Nat) (Option.some FieldType.int)) ∈ lw_tbl := tb_r (List.mem_of_getElem? (i := 1638) (by decide +kernel))
theorem tb1639 : (Cond.methodLink "DiaryHouseModel" (348 : Nat) ({ cls := "DiaryHouseModel", name := "stratum", desc := "(I)I" } : MethodName)) ∈ lw_tbl := tb_r (List.mem_of_getElem? (i := 1639) (by decide +kernel))
theorem tb1641 : (Cond.instanceMethod ({ cls := "DiaryHouseModel", name := "stratum", desc := "(I)I" } : MethodName)) ∈ lw_tbl := tb_r (List.mem_of_getElem? (i := 1641) (by decide +kernel))
theorem tb1642 : (Cond.code ({ cls := "DiaryHouseModel", name := "stratum", desc := "(I)I" } : MethodName) prog_14_method_12_code (2 : Nat) (Option.some FieldType.int)) ∈ lw_tbl := tb_r (List.mem_of_getElem? (i := 1642) (by decide +kernel))
theorem tb1661 : (Cond.methodLink "DiaryHouseModel" (363 : Nat) ({ cls := "DiaryHouseModel", name := "lastOf", desc := "(II)I" } : MethodName)) ∈ lw_tbl := tb_r (List.mem_of_getElem? (i := 1661) (by decide +kernel))
theorem tb1663 : (Cond.instanceMethod ({ cls := "DiaryHouseModel", name := "lastOf", desc := "(II)I" } : MethodName)) ∈ lw_tbl := tb_r (List.mem_of_getElem? (i := 1663) (by decide +kernel))
theorem tb1664 : (Cond.code ({ cls := "DiaryHouseModel", name := "lastOf", desc := "(II)I" } : MethodName) prog_14_method_69_code (5 : Nat) (Option.some FieldType.int)) ∈ lw_tbl := tb_r (List.mem_of_getElem? (i := 1664) (by decide +kernel))
theorem tb1669 : (Cond.methodLink "DiaryHouseModel" (366 : Nat) ({ cls := "DiaryHouseModel", name := "isStopped", desc := "(II)Z" } : MethodName)) ∈ lw_tbl := tb_r (List.mem_of_getElem? (i := 1669) (by decide +kernel))
theorem tb1671 : (Cond.instanceMethod ({ cls := "DiaryHouseModel", name := "isStopped", desc := "(II)Z" } : MethodName)) ∈ lw_tbl := tb_r (List.mem_of_getElem? (i := 1671) (by decide +kernel))
theorem tb1672 : (Cond.code ({ cls := "DiaryHouseModel", name := "isStopped", desc := "(II)Z" } : MethodName) prog_14_method_71_code (4 : Nat) (Option.some FieldType.boolean)) ∈ lw_tbl := tb_r (List.mem_of_getElem? (i := 1672) (by decide +kernel))
theorem tb1685 : (Cond.methodLink "DiaryHouseModel" (381 : Nat) ({ cls := "DiaryHouseModel", name := "tryTable", desc := "(II)V" } : MethodName)) ∈ lw_tbl := tb_r (List.mem_of_getElem? (i := 1685) (by decide +kernel))
theorem tb1687 : (Cond.instanceMethod ({ cls := "DiaryHouseModel", name := "tryTable", desc := "(II)V" } : MethodName)) ∈ lw_tbl := tb_r (List.mem_of_getElem? (i := 1687) (by decide +kernel))
theorem tb1688 : (Cond.code ({ cls := "DiaryHouseModel", name := "tryTable", desc := "(II)V" } : MethodName) prog_14_method_76_code (4 : Nat) (Option.none : Option FieldType)) ∈ lw_tbl := tb_r (List.mem_of_getElem? (i := 1688) (by decide +kernel))
theorem tb1689 : (Cond.methodLink "DiaryHouseModel" (378 : Nat) ({ cls := "DiaryHouseModel", name := "maySee", desc := "(II)Z" } : MethodName)) ∈ lw_tbl := tb_r (List.mem_of_getElem? (i := 1689) (by decide +kernel))
theorem tb1691 : (Cond.instanceMethod ({ cls := "DiaryHouseModel", name := "maySee", desc := "(II)Z" } : MethodName)) ∈ lw_tbl := tb_r (List.mem_of_getElem? (i := 1691) (by decide +kernel))
theorem tb1692 : (Cond.code ({ cls := "DiaryHouseModel", name := "maySee", desc := "(II)Z" } : MethodName) prog_14_method_75_code (5 : Nat) (Option.some FieldType.boolean)) ∈ lw_tbl := tb_r (List.mem_of_getElem? (i := 1692) (by decide +kernel))
theorem tb1697 : (Cond.methodLink "DiaryHouseModel" (385 : Nat) ({ cls := "DiaryHouseModel", name := "alikeOf", desc := "(II)I" } : MethodName)) ∈ lw_tbl := tb_r (List.mem_of_getElem? (i := 1697) (by decide +kernel))
theorem tb1699 : (Cond.instanceMethod ({ cls := "DiaryHouseModel", name := "alikeOf", desc := "(II)I" } : MethodName)) ∈ lw_tbl := tb_r (List.mem_of_getElem? (i := 1699) (by decide +kernel))
theorem tb1700 : (Cond.code ({ cls := "DiaryHouseModel", name := "alikeOf", desc := "(II)I" } : MethodName) prog_14_method_78_code (6 : Nat) (Option.some FieldType.int)) ∈ lw_tbl := tb_r (List.mem_of_getElem? (i := 1700) (by decide +kernel))
theorem tb1705 : (Cond.methodLink "DiaryHouseModel" (388 : Nat) ({ cls := "java/lang/Integer", name := "bitCount", desc := "(I)I" } : MethodName)) ∈ lw_tbl := tb_r (List.mem_of_getElem? (i := 1705) (by decide +kernel))
theorem tb1714 : (Cond.methodLink "DiaryHouseModel" (396 : Nat) ({ cls := "DiaryHouseModel", name := "priceOf", desc := "(I)I" } : MethodName)) ∈ lw_tbl := tb_r (List.mem_of_getElem? (i := 1714) (by decide +kernel))
theorem tb1716 : (Cond.instanceMethod ({ cls := "DiaryHouseModel", name := "priceOf", desc := "(I)I" } : MethodName)) ∈ lw_tbl := tb_r (List.mem_of_getElem? (i := 1716) (by decide +kernel))
theorem tb1717 : (Cond.code ({ cls := "DiaryHouseModel", name := "priceOf", desc := "(I)I" } : MethodName) prog_14_method_82_code (4 : Nat) (Option.some FieldType.int)) ∈ lw_tbl := tb_r (List.mem_of_getElem? (i := 1717) (by decide +kernel))
theorem tb1718 : (Cond.methodLink "DiaryHouseModel" (399 : Nat) ({ cls := "DiaryHouseModel", name := "sortsOf", desc := "(I)I" } : MethodName)) ∈ lw_tbl := tb_r (List.mem_of_getElem? (i := 1718) (by decide +kernel))
theorem tb1720 : (Cond.instanceMethod ({ cls := "DiaryHouseModel", name := "sortsOf", desc := "(I)I" } : MethodName)) ∈ lw_tbl := tb_r (List.mem_of_getElem? (i := 1720) (by decide +kernel))
theorem tb1721 : (Cond.code ({ cls := "DiaryHouseModel", name := "sortsOf", desc := "(I)I" } : MethodName) prog_14_method_83_code (4 : Nat) (Option.some FieldType.int)) ∈ lw_tbl := tb_r (List.mem_of_getElem? (i := 1721) (by decide +kernel))
theorem sl_X12_alikeOf : Cond.selects yX12_alikeOf.cls yX12_alikeOf yX12_alikeOf ∈ lw_tbl := List.mem_of_getElem? (i := 90) (by decide +kernel)
theorem sl_X12_isKnown : Cond.selects yX12_isKnown.cls yX12_isKnown yX12_isKnown ∈ lw_tbl := List.mem_of_getElem? (i := 58) (by decide +kernel)
theorem sl_X12_isLine : Cond.selects yX12_isLine.cls yX12_isLine yX12_isLine ∈ lw_tbl := List.mem_of_getElem? (i := 57) (by decide +kernel)
theorem sl_X12_isLineBy : Cond.selects yX12_isLineBy.cls yX12_isLineBy yX12_isLineBy ∈ lw_tbl := List.mem_of_getElem? (i := 78) (by decide +kernel)
theorem sl_X12_isPerson : Cond.selects yX12_isPerson.cls yX12_isPerson yX12_isPerson ∈ lw_tbl := List.mem_of_getElem? (i := 55) (by decide +kernel)
theorem sl_X12_isStopped : Cond.selects yX12_isStopped.cls yX12_isStopped yX12_isStopped ∈ lw_tbl := List.mem_of_getElem? (i := 87) (by decide +kernel)
theorem sl_X12_lastOf : Cond.selects yX12_lastOf.cls yX12_lastOf yX12_lastOf ∈ lw_tbl := List.mem_of_getElem? (i := 86) (by decide +kernel)
theorem sl_X12_markOf : Cond.selects yX12_markOf.cls yX12_markOf yX12_markOf ∈ lw_tbl := List.mem_of_getElem? (i := 82) (by decide +kernel)
theorem sl_X12_maySee : Cond.selects yX12_maySee.cls yX12_maySee yX12_maySee ∈ lw_tbl := List.mem_of_getElem? (i := 89) (by decide +kernel)
theorem sl_X12_people : Cond.selects yX12_people.cls yX12_people yX12_people ∈ lw_tbl := List.mem_of_getElem? (i := 83) (by decide +kernel)
theorem sl_X12_priceOf : Cond.selects yX12_priceOf.cls yX12_priceOf yX12_priceOf ∈ lw_tbl := List.mem_of_getElem? (i := 91) (by decide +kernel)
theorem sl_X12_put : Cond.selects yX12_put.cls yX12_put yX12_put ∈ lw_tbl := List.mem_of_getElem? (i := 59) (by decide +kernel)
theorem sl_X12_ruleOn : Cond.selects yX12_ruleOn.cls yX12_ruleOn yX12_ruleOn ∈ lw_tbl := List.mem_of_getElem? (i := 74) (by decide +kernel)
theorem sl_X12_sortsOf : Cond.selects yX12_sortsOf.cls yX12_sortsOf yX12_sortsOf ∈ lw_tbl := List.mem_of_getElem? (i := 92) (by decide +kernel)
theorem sl_X12_stopsFrom : Cond.selects yX12_stopsFrom.cls yX12_stopsFrom yX12_stopsFrom ∈ lw_tbl := List.mem_of_getElem? (i := 56) (by decide +kernel)
theorem sl_X12_stratum : Cond.selects yX12_stratum.cls yX12_stratum yX12_stratum ∈ lw_tbl := List.mem_of_getElem? (i := 84) (by decide +kernel)
theorem sl_X12_tryTable : Cond.selects yX12_tryTable.cls yX12_tryTable yX12_tryTable ∈ lw_tbl := List.mem_of_getElem? (i := 88) (by decide +kernel)
theorem sl_X12_wordOf : Cond.selects yX12_wordOf.cls yX12_wordOf yX12_wordOf ∈ lw_tbl := List.mem_of_getElem? (i := 81) (by decide +kernel)
theorem lc_J6_bitCount_0f7a4 : LkC MJ6_bitCount_0f7a4 1 := ⟨tb1055, tb30, by decide, by decide +kernel, by decide⟩
theorem lc_J9_abs_0f7a4 : LkC MJ9_abs_0f7a4 1 := ⟨tb754, tb13, by decide, by decide +kernel, by decide⟩
theorem lc_X12_alikeOf : LkC MX12_alikeOf 2 := ⟨tb1700, tb10, by decide, by decide +kernel, by decide⟩
theorem lc_X12_bytesIn : LkC MX12_bytesIn 1 := ⟨tb1442, tb10, by decide, by decide +kernel, by decide⟩
theorem lc_X12_isDay : LkC MX12_isDay 1 := ⟨tb1427, tb10, by decide, by decide +kernel, by decide⟩
theorem lc_X12_isIn : LkC MX12_isIn 3 := ⟨tb1393, tb10, by decide, by decide +kernel, by decide⟩
theorem lc_X12_isKnown : LkC MX12_isKnown 1 := ⟨tb1435, tb10, by decide, by decide +kernel, by decide⟩
theorem lc_X12_isLine : LkC MX12_isLine 1 := ⟨tb1420, tb10, by decide, by decide +kernel, by decide⟩
theorem lc_X12_isLineBy : LkC MX12_isLineBy 2 := ⟨tb1559, tb10, by decide, by decide +kernel, by decide⟩
theorem lc_X12_isPerson : LkC MX12_isPerson 1 := ⟨tb1405, tb10, by decide, by decide +kernel, by decide⟩
theorem lc_X12_isReader : LkC MX12_isReader 1 := ⟨tb1605, tb10, by decide, by decide +kernel, by decide⟩
theorem lc_X12_isSort : LkC MX12_isSort 1 := ⟨tb1408, tb10, by decide, by decide +kernel, by decide⟩
theorem lc_X12_isStopped : LkC MX12_isStopped 2 := ⟨tb1672, tb10, by decide, by decide +kernel, by decide⟩
theorem lc_X12_lastOf : LkC MX12_lastOf 2 := ⟨tb1664, tb10, by decide, by decide +kernel, by decide⟩
theorem lc_X12_markOf : LkC MX12_markOf 3 := ⟨tb1613, tb10, by decide, by decide +kernel, by decide⟩
theorem lc_X12_maySee : LkC MX12_maySee 2 := ⟨tb1692, tb10, by decide, by decide +kernel, by decide⟩
theorem lc_X12_people : LkC MX12_people 0 := ⟨tb1638, tb10, by decide, by decide +kernel, by decide⟩
theorem lc_X12_priceOf : LkC MX12_priceOf 1 := ⟨tb1717, tb10, by decide, by decide +kernel, by decide⟩
theorem lc_X12_put : LkC MX12_put 1 := ⟨tb1446, tb10, by decide, by decide +kernel, by decide⟩
theorem lc_X12_ruleOn : LkC MX12_ruleOn 2 := ⟨tb1535, tb10, by decide, by decide +kernel, by decide⟩
theorem lc_X12_sortsOf : LkC MX12_sortsOf 1 := ⟨tb1721, tb10, by decide, by decide +kernel, by decide⟩
theorem lc_X12_stopsFrom : LkC MX12_stopsFrom 2 := ⟨tb1412, tb10, by decide, by decide +kernel, by decide⟩
theorem lc_X12_stratum : LkC MX12_stratum 1 := ⟨tb1642, tb10, by decide, by decide +kernel, by decide⟩
theorem lc_X12_tryTable : LkC MX12_tryTable 2 := ⟨tb1688, tb10, by decide, by decide +kernel, by decide⟩
theorem lc_X12_wordOf : LkC MX12_wordOf 3 := ⟨tb1594, tb10, by decide, by decide +kernel, by decide⟩
theorem lf_X12_102 : LkF RX12 102 13 48 := ⟨_, rfl, by decide, Or.inl tb1231, Or.inl rfl⟩
theorem lf_X12_105 : LkF RX12 105 13 50 := ⟨_, rfl, by decide, Or.inl tb1233, Or.inl rfl⟩
theorem lf_X12_111 : LkF RX12 111 13 53 := ⟨_, rfl, by decide, Or.inl tb1236, Or.inl rfl⟩
theorem lf_X12_114 : LkF RX12 114 13 54 := ⟨_, rfl, by decide, Or.inl tb1237, Or.inl rfl⟩
theorem lf_X12_117 : LkF RX12 117 13 55 := ⟨_, rfl, by decide, Or.inl tb1238, Or.inl rfl⟩
theorem lf_X12_120 : LkF RX12 120 13 56 := ⟨_, rfl, by decide, Or.inl tb1239, Or.inl rfl⟩
theorem lf_X12_123 : LkF RX12 123 13 57 := ⟨_, rfl, by decide, Or.inl tb1240, Or.inl rfl⟩
theorem lf_X12_126 : LkF RX12 126 13 58 := ⟨_, rfl, by decide, Or.inl tb1241, Or.inl rfl⟩
theorem lf_X12_129 : LkF RX12 129 13 62 := ⟨_, rfl, by decide, Or.inl tb1245, Or.inl rfl⟩
theorem lf_X12_13 : LkF RX12 13 13 3 := ⟨_, rfl, by decide, Or.inl tb1186, Or.inl rfl⟩
theorem lf_X12_132 : LkF RX12 132 13 63 := ⟨_, rfl, by decide, Or.inl tb1246, Or.inl rfl⟩
theorem lf_X12_138 : LkF RX12 138 13 0 := ⟨_, rfl, by decide, Or.inl tb1183, Or.inl rfl⟩
theorem lf_X12_142 : LkF RX12 142 13 1 := ⟨_, rfl, by decide, Or.inl tb1184, Or.inl rfl⟩
theorem lf_X12_149 : LkF RX12 149 13 15 := ⟨_, rfl, by decide, Or.inl tb1198, Or.inl rfl⟩
theorem lf_X12_152 : LkF RX12 152 13 16 := ⟨_, rfl, by decide, Or.inl tb1199, Or.inl rfl⟩
theorem lf_X12_16 : LkF RX12 16 13 4 := ⟨_, rfl, by decide, Or.inl tb1187, Or.inl rfl⟩
theorem lf_X12_162 : LkF RX12 162 13 17 := ⟨_, rfl, by decide, Or.inl tb1200, Or.inl rfl⟩
theorem lf_X12_178 : LkF RX12 178 13 24 := ⟨_, rfl, by decide, Or.inl tb1207, Or.inl rfl⟩
theorem lf_X12_19 : LkF RX12 19 13 5 := ⟨_, rfl, by decide, Or.inl tb1188, Or.inl rfl⟩
theorem lf_X12_22 : LkF RX12 22 13 6 := ⟨_, rfl, by decide, Or.inl tb1189, Or.inl rfl⟩
theorem lf_X12_25 : LkF RX12 25 13 7 := ⟨_, rfl, by decide, Or.inl tb1190, Or.inl rfl⟩
theorem lf_X12_28 : LkF RX12 28 13 8 := ⟨_, rfl, by decide, Or.inl tb1191, Or.inl rfl⟩
theorem lf_X12_289 : LkF RX12 289 13 25 := ⟨_, rfl, by decide, Or.inl tb1208, Or.inl rfl⟩
theorem lf_X12_31 : LkF RX12 31 13 9 := ⟨_, rfl, by decide, Or.inl tb1192, Or.inl rfl⟩
theorem lf_X12_329 : LkF RX12 329 13 44 := ⟨_, rfl, by decide, Or.inl tb1227, Or.inl rfl⟩
theorem lf_X12_335 : LkF RX12 335 13 49 := ⟨_, rfl, by decide, Or.inl tb1232, Or.inl rfl⟩
theorem lf_X12_34 : LkF RX12 34 13 10 := ⟨_, rfl, by decide, Or.inl tb1193, Or.inl rfl⟩
theorem lf_X12_369 : LkF RX12 369 13 59 := ⟨_, rfl, by decide, Or.inl tb1242, Or.inl rfl⟩
theorem lf_X12_37 : LkF RX12 37 13 11 := ⟨_, rfl, by decide, Or.inl tb1194, Or.inl rfl⟩
theorem lf_X12_372 : LkF RX12 372 13 60 := ⟨_, rfl, by decide, Or.inl tb1243, Or.inl rfl⟩
theorem lf_X12_375 : LkF RX12 375 13 61 := ⟨_, rfl, by decide, Or.inl tb1244, Or.inl rfl⟩
theorem lf_X12_393 : LkF RX12 393 13 65 := ⟨_, rfl, by decide, Or.inl tb1248, Or.inl rfl⟩
theorem lf_X12_40 : LkF RX12 40 13 12 := ⟨_, rfl, by decide, Or.inl tb1195, Or.inl rfl⟩
theorem lf_X12_43 : LkF RX12 43 13 13 := ⟨_, rfl, by decide, Or.inl tb1196, Or.inl rfl⟩
theorem lf_X12_46 : LkF RX12 46 13 14 := ⟨_, rfl, by decide, Or.inl tb1197, Or.inl rfl⟩
theorem lf_X12_49 : LkF RX12 49 13 18 := ⟨_, rfl, by decide, Or.inl tb1201, Or.inl rfl⟩
theorem lf_X12_59 : LkF RX12 59 13 21 := ⟨_, rfl, by decide, Or.inl tb1204, Or.inl rfl⟩
theorem lf_X12_62 : LkF RX12 62 13 22 := ⟨_, rfl, by decide, Or.inl tb1205, Or.inl rfl⟩
theorem lf_X12_74 : LkF RX12 74 13 38 := ⟨_, rfl, by decide, Or.inl tb1221, Or.inl rfl⟩
theorem lf_X12_77 : LkF RX12 77 13 39 := ⟨_, rfl, by decide, Or.inl tb1222, Or.inl rfl⟩
theorem lf_X12_80 : LkF RX12 80 13 40 := ⟨_, rfl, by decide, Or.inl tb1223, Or.inl rfl⟩
theorem lf_X12_83 : LkF RX12 83 13 41 := ⟨_, rfl, by decide, Or.inl tb1224, Or.inl rfl⟩
theorem lf_X12_86 : LkF RX12 86 13 42 := ⟨_, rfl, by decide, Or.inl tb1225, Or.inl rfl⟩
theorem lf_X12_9 : LkF RX12 9 13 2 := ⟨_, rfl, by decide, Or.inl tb1185, Or.inl rfl⟩
theorem lf_X12_93 : LkF RX12 93 13 45 := ⟨_, rfl, by decide, Or.inl tb1228, Or.inl rfl⟩
theorem lf_X12_96 : LkF RX12 96 13 46 := ⟨_, rfl, by decide, Or.inl tb1229, Or.inl rfl⟩
theorem lf_X12_99 : LkF RX12 99 13 47 := ⟨_, rfl, by decide, Or.inl tb1230, Or.inl rfl⟩
theorem lp_X12_138 : LkP RX12 138 13 0 := ⟨_, rfl, by decide, tb1183, Or.inl rfl, rfl⟩
theorem lp_X12_142 : LkP RX12 142 13 1 := ⟨_, rfl, by decide, tb1184, Or.inl rfl, rfl⟩
theorem lp_X12_149 : LkP RX12 149 13 15 := ⟨_, rfl, by decide, tb1198, Or.inl rfl, rfl⟩
theorem lp_X12_152 : LkP RX12 152 13 16 := ⟨_, rfl, by decide, tb1199, Or.inl rfl, rfl⟩
theorem lp_X12_162 : LkP RX12 162 13 17 := ⟨_, rfl, by decide, tb1200, Or.inl rfl, rfl⟩
theorem lp_X12_178 : LkP RX12 178 13 24 := ⟨_, rfl, by decide, tb1207, Or.inl rfl, rfl⟩
theorem lp_X12_329 : LkP RX12 329 13 44 := ⟨_, rfl, by decide, tb1227, Or.inl rfl, rfl⟩
theorem lp_X12_335 : LkP RX12 335 13 49 := ⟨_, rfl, by decide, tb1232, Or.inl rfl, rfl⟩
theorem lp_X12_369 : LkP RX12 369 13 59 := ⟨_, rfl, by decide, tb1242, Or.inl rfl, rfl⟩
theorem lp_X12_372 : LkP RX12 372 13 60 := ⟨_, rfl, by decide, tb1243, Or.inl rfl, rfl⟩
theorem lp_X12_375 : LkP RX12 375 13 61 := ⟨_, rfl, by decide, tb1244, Or.inl rfl, rfl⟩
theorem lp_X12_393 : LkP RX12 393 13 65 := ⟨_, rfl, by decide, tb1248, Or.inl rfl, rfl⟩
theorem ls_X12_145 : LkS RX12 145 MX12_isIn 3 := ⟨lc_X12_isIn, tb1392, tb1391⟩
theorem ls_X12_168 : LkS RX12 168 MX12_isSort 1 := ⟨lc_X12_isSort, tb1407, tb1406⟩
theorem ls_X12_175 : LkS RX12 175 MX12_isDay 1 := ⟨lc_X12_isDay, tb1426, tb1425⟩
theorem ls_X12_181 : LkS RX12 181 MX12_bytesIn 1 := ⟨lc_X12_bytesIn, tb1441, tb1440⟩
theorem ls_X12_323 : LkS RX12 323 MJ9_abs_0f7a4 1 := ⟨lc_J9_abs_0f7a4, tb753, tb1574⟩
theorem ls_X12_338 : LkS RX12 338 MX12_isReader 1 := ⟨lc_X12_isReader, tb1604, tb1603⟩
theorem ls_X12_388 : LkS RX12 388 MJ6_bitCount_0f7a4 1 := ⟨lc_J6_bitCount_0f7a4, tb1054, tb1705⟩
theorem lv_X12_155 : LkV RX12 155 MX12_isLine 1 := ⟨lc_X12_isLine, tb1419, sl_X12_isLine, tb1417⟩
theorem lv_X12_159 : LkV RX12 159 MX12_isKnown 1 := ⟨lc_X12_isKnown, tb1434, sl_X12_isKnown, tb1432⟩
theorem lv_X12_165 : LkV RX12 165 MX12_isPerson 1 := ⟨lc_X12_isPerson, tb1404, sl_X12_isPerson, tb1402⟩
theorem lv_X12_171 : LkV RX12 171 MX12_stopsFrom 2 := ⟨lc_X12_stopsFrom, tb1411, sl_X12_stopsFrom, tb1409⟩
theorem lv_X12_185 : LkV RX12 185 MX12_put 1 := ⟨lc_X12_put, tb1445, sl_X12_put, tb1443⟩
theorem lv_X12_292 : LkV RX12 292 MX12_ruleOn 2 := ⟨lc_X12_ruleOn, tb1534, sl_X12_ruleOn, tb1532⟩
theorem lv_X12_305 : LkV RX12 305 MX12_isLineBy 2 := ⟨lc_X12_isLineBy, tb1558, sl_X12_isLineBy, tb1556⟩
theorem lv_X12_332 : LkV RX12 332 MX12_wordOf 3 := ⟨lc_X12_wordOf, tb1593, sl_X12_wordOf, tb1591⟩
theorem lv_X12_341 : LkV RX12 341 MX12_markOf 3 := ⟨lc_X12_markOf, tb1612, sl_X12_markOf, tb1610⟩
theorem lv_X12_345 : LkV RX12 345 MX12_people 0 := ⟨lc_X12_people, tb1637, sl_X12_people, tb1635⟩
theorem lv_X12_348 : LkV RX12 348 MX12_stratum 1 := ⟨lc_X12_stratum, tb1641, sl_X12_stratum, tb1639⟩
theorem lv_X12_363 : LkV RX12 363 MX12_lastOf 2 := ⟨lc_X12_lastOf, tb1663, sl_X12_lastOf, tb1661⟩
theorem lv_X12_366 : LkV RX12 366 MX12_isStopped 2 := ⟨lc_X12_isStopped, tb1671, sl_X12_isStopped, tb1669⟩
theorem lv_X12_378 : LkV RX12 378 MX12_maySee 2 := ⟨lc_X12_maySee, tb1691, sl_X12_maySee, tb1689⟩
theorem lv_X12_381 : LkV RX12 381 MX12_tryTable 2 := ⟨lc_X12_tryTable, tb1687, sl_X12_tryTable, tb1685⟩
theorem lv_X12_385 : LkV RX12 385 MX12_alikeOf 2 := ⟨lc_X12_alikeOf, tb1699, sl_X12_alikeOf, tb1697⟩
theorem lv_X12_396 : LkV RX12 396 MX12_priceOf 1 := ⟨lc_X12_priceOf, tb1716, sl_X12_priceOf, tb1714⟩
theorem lv_X12_399 : LkV RX12 399 MX12_sortsOf 1 := ⟨lc_X12_sortsOf, tb1720, sl_X12_sortsOf, tb1718⟩
end
section
theorem dJ6_bitCount_0f7a4_0 : decode cJ6_bitCount_0f7a4 0 = .ok (.iload_n 0, 1) := by decide +kernel
theorem dJ6_bitCount_0f7a4_1 : decode cJ6_bitCount_0f7a4 1 = .ok (.iload_n 0, 1) := by decide +kernel
theorem dJ6_bitCount_0f7a4_2 : decode cJ6_bitCount_0f7a4 2 = .ok (.iconst 1, 1) := by decide +kernel
theorem dJ6_bitCount_0f7a4_3 : decode cJ6_bitCount_0f7a4 3 = .ok (.iushr, 1) := by decide +kernel
theorem dJ6_bitCount_0f7a4_4 : decode cJ6_bitCount_0f7a4 4 = .ok (.ldc_w 265, 3) := by decide +kernel
theorem dJ6_bitCount_0f7a4_7 : decode cJ6_bitCount_0f7a4 7 = .ok (.iand, 1) := by decide +kernel
theorem dJ6_bitCount_0f7a4_8 : decode cJ6_bitCount_0f7a4 8 = .ok (.isub, 1) := by decide +kernel
theorem dJ6_bitCount_0f7a4_9 : decode cJ6_bitCount_0f7a4 9 = .ok (.istore_n 0, 1) := by decide +kernel
theorem dJ6_bitCount_0f7a4_10 : decode cJ6_bitCount_0f7a4 10 = .ok (.iload_n 0, 1) := by decide +kernel
theorem dJ6_bitCount_0f7a4_11 : decode cJ6_bitCount_0f7a4 11 = .ok (.ldc_w 266, 3) := by decide +kernel
theorem dJ6_bitCount_0f7a4_14 : decode cJ6_bitCount_0f7a4 14 = .ok (.iand, 1) := by decide +kernel
theorem dJ6_bitCount_0f7a4_15 : decode cJ6_bitCount_0f7a4 15 = .ok (.iload_n 0, 1) := by decide +kernel
theorem dJ6_bitCount_0f7a4_16 : decode cJ6_bitCount_0f7a4 16 = .ok (.iconst 2, 1) := by decide +kernel
theorem dJ6_bitCount_0f7a4_17 : decode cJ6_bitCount_0f7a4 17 = .ok (.iushr, 1) := by decide +kernel
theorem dJ6_bitCount_0f7a4_18 : decode cJ6_bitCount_0f7a4 18 = .ok (.ldc_w 266, 3) := by decide +kernel
theorem dJ6_bitCount_0f7a4_21 : decode cJ6_bitCount_0f7a4 21 = .ok (.iand, 1) := by decide +kernel
theorem dJ6_bitCount_0f7a4_22 : decode cJ6_bitCount_0f7a4 22 = .ok (.iadd, 1) := by decide +kernel
theorem dJ6_bitCount_0f7a4_23 : decode cJ6_bitCount_0f7a4 23 = .ok (.istore_n 0, 1) := by decide +kernel
theorem dJ6_bitCount_0f7a4_24 : decode cJ6_bitCount_0f7a4 24 = .ok (.iload_n 0, 1) := by decide +kernel
theorem dJ6_bitCount_0f7a4_25 : decode cJ6_bitCount_0f7a4 25 = .ok (.iload_n 0, 1) := by decide +kernel
theorem dJ6_bitCount_0f7a4_26 : decode cJ6_bitCount_0f7a4 26 = .ok (.iconst 4, 1) := by decide +kernel
theorem dJ6_bitCount_0f7a4_27 : decode cJ6_bitCount_0f7a4 27 = .ok (.iushr, 1) := by decide +kernel
theorem dJ6_bitCount_0f7a4_28 : decode cJ6_bitCount_0f7a4 28 = .ok (.iadd, 1) := by decide +kernel
theorem dJ6_bitCount_0f7a4_29 : decode cJ6_bitCount_0f7a4 29 = .ok (.ldc_w 267, 3) := by decide +kernel
theorem dJ6_bitCount_0f7a4_32 : decode cJ6_bitCount_0f7a4 32 = .ok (.iand, 1) := by decide +kernel
theorem dJ6_bitCount_0f7a4_33 : decode cJ6_bitCount_0f7a4 33 = .ok (.istore_n 0, 1) := by decide +kernel
theorem dJ6_bitCount_0f7a4_34 : decode cJ6_bitCount_0f7a4 34 = .ok (.iload_n 0, 1) := by decide +kernel
theorem dJ6_bitCount_0f7a4_35 : decode cJ6_bitCount_0f7a4 35 = .ok (.iload_n 0, 1) := by decide +kernel
theorem dJ6_bitCount_0f7a4_36 : decode cJ6_bitCount_0f7a4 36 = .ok (.bipush 8, 2) := by decide +kernel
theorem dJ6_bitCount_0f7a4_38 : decode cJ6_bitCount_0f7a4 38 = .ok (.iushr, 1) := by decide +kernel
theorem dJ6_bitCount_0f7a4_39 : decode cJ6_bitCount_0f7a4 39 = .ok (.iadd, 1) := by decide +kernel
theorem dJ6_bitCount_0f7a4_40 : decode cJ6_bitCount_0f7a4 40 = .ok (.istore_n 0, 1) := by decide +kernel
theorem dJ6_bitCount_0f7a4_41 : decode cJ6_bitCount_0f7a4 41 = .ok (.iload_n 0, 1) := by decide +kernel
theorem dJ6_bitCount_0f7a4_42 : decode cJ6_bitCount_0f7a4 42 = .ok (.iload_n 0, 1) := by decide +kernel
theorem dJ6_bitCount_0f7a4_43 : decode cJ6_bitCount_0f7a4 43 = .ok (.bipush 16, 2) := by decide +kernel
theorem dJ6_bitCount_0f7a4_45 : decode cJ6_bitCount_0f7a4 45 = .ok (.iushr, 1) := by decide +kernel
theorem dJ6_bitCount_0f7a4_46 : decode cJ6_bitCount_0f7a4 46 = .ok (.iadd, 1) := by decide +kernel
theorem dJ6_bitCount_0f7a4_47 : decode cJ6_bitCount_0f7a4 47 = .ok (.istore_n 0, 1) := by decide +kernel
theorem dJ6_bitCount_0f7a4_48 : decode cJ6_bitCount_0f7a4 48 = .ok (.iload_n 0, 1) := by decide +kernel
theorem dJ6_bitCount_0f7a4_49 : decode cJ6_bitCount_0f7a4 49 = .ok (.bipush 63, 2) := by decide +kernel
theorem dJ6_bitCount_0f7a4_51 : decode cJ6_bitCount_0f7a4 51 = .ok (.iand, 1) := by decide +kernel
theorem dJ6_bitCount_0f7a4_52 : decode cJ6_bitCount_0f7a4 52 = .ok (.ireturn, 1) := by decide +kernel
theorem dJ9_abs_067f4_0 : decode cJ9_abs_067f4 0 = .ok (.lload_n 0, 1) := by decide +kernel
theorem dJ9_abs_067f4_1 : decode cJ9_abs_067f4 1 = .ok (.lconst 0, 1) := by decide +kernel
theorem dJ9_abs_067f4_2 : decode cJ9_abs_067f4 2 = .ok (.lcmp, 1) := by decide +kernel
theorem dJ9_abs_067f4_3 : decode cJ9_abs_067f4 3 = .ok (.ifCond .ge 8, 3) := by decide +kernel
theorem dJ9_abs_067f4_6 : decode cJ9_abs_067f4 6 = .ok (.lload_n 0, 1) := by decide +kernel
theorem dJ9_abs_067f4_7 : decode cJ9_abs_067f4 7 = .ok (.lneg, 1) := by decide +kernel
theorem dJ9_abs_067f4_8 : decode cJ9_abs_067f4 8 = .ok (.goto 4, 3) := by decide +kernel
theorem dJ9_abs_067f4_11 : decode cJ9_abs_067f4 11 = .ok (.lload_n 0, 1) := by decide +kernel
theorem dJ9_abs_067f4_12 : decode cJ9_abs_067f4 12 = .ok (.lreturn, 1) := by decide +kernel
theorem dJ9_abs_0f7a4_0 : decode cJ9_abs_0f7a4 0 = .ok (.iload_n 0, 1) := by decide +kernel
theorem dJ9_abs_0f7a4_1 : decode cJ9_abs_0f7a4 1 = .ok (.ifCond .ge 8, 3) := by decide +kernel
theorem dJ9_abs_0f7a4_4 : decode cJ9_abs_0f7a4 4 = .ok (.iload_n 0, 1) := by decide +kernel
theorem dJ9_abs_0f7a4_5 : decode cJ9_abs_0f7a4 5 = .ok (.ineg, 1) := by decide +kernel
theorem dJ9_abs_0f7a4_6 : decode cJ9_abs_0f7a4 6 = .ok (.goto 4, 3) := by decide +kernel
theorem dJ9_abs_0f7a4_9 : decode cJ9_abs_0f7a4 9 = .ok (.iload_n 0, 1) := by decide +kernel
theorem dJ9_abs_0f7a4_10 : decode cJ9_abs_0f7a4 10 = .ok (.ireturn, 1) := by decide +kernel
theorem dJ9_max_7cf53_0 : decode cJ9_max_7cf53 0 = .ok (.iload_n 0, 1) := by decide +kernel
theorem dJ9_max_7cf53_1 : decode cJ9_max_7cf53 1 = .ok (.iload_n 1, 1) := by decide +kernel
theorem dJ9_max_7cf53_2 : decode cJ9_max_7cf53 2 = .ok (.if_icmp .lt 7, 3) := by decide +kernel
theorem dJ9_max_7cf53_5 : decode cJ9_max_7cf53 5 = .ok (.iload_n 0, 1) := by decide +kernel
theorem dJ9_max_7cf53_6 : decode cJ9_max_7cf53 6 = .ok (.goto 4, 3) := by decide +kernel
theorem dJ9_max_7cf53_9 : decode cJ9_max_7cf53 9 = .ok (.iload_n 1, 1) := by decide +kernel
theorem dJ9_max_7cf53_10 : decode cJ9_max_7cf53 10 = .ok (.ireturn, 1) := by decide +kernel
theorem dJ9_max_f86c9_0 : decode cJ9_max_f86c9 0 = .ok (.lload_n 0, 1) := by decide +kernel
theorem dJ9_max_f86c9_1 : decode cJ9_max_f86c9 1 = .ok (.lload_n 2, 1) := by decide +kernel
theorem dJ9_max_f86c9_2 : decode cJ9_max_f86c9 2 = .ok (.lcmp, 1) := by decide +kernel
theorem dJ9_max_f86c9_3 : decode cJ9_max_f86c9 3 = .ok (.ifCond .lt 7, 3) := by decide +kernel
theorem dJ9_max_f86c9_6 : decode cJ9_max_f86c9 6 = .ok (.lload_n 0, 1) := by decide +kernel
theorem dJ9_max_f86c9_7 : decode cJ9_max_f86c9 7 = .ok (.goto 4, 3) := by decide +kernel
theorem dJ9_max_f86c9_10 : decode cJ9_max_f86c9 10 = .ok (.lload_n 2, 1) := by decide +kernel
theorem dJ9_max_f86c9_11 : decode cJ9_max_f86c9 11 = .ok (.lreturn, 1) := by decide +kernel
theorem dJ9_min_7cf53_0 : decode cJ9_min_7cf53 0 = .ok (.iload_n 0, 1) := by decide +kernel
theorem dJ9_min_7cf53_1 : decode cJ9_min_7cf53 1 = .ok (.iload_n 1, 1) := by decide +kernel
theorem dJ9_min_7cf53_2 : decode cJ9_min_7cf53 2 = .ok (.if_icmp .gt 7, 3) := by decide +kernel
theorem dJ9_min_7cf53_5 : decode cJ9_min_7cf53 5 = .ok (.iload_n 0, 1) := by decide +kernel
theorem dJ9_min_7cf53_6 : decode cJ9_min_7cf53 6 = .ok (.goto 4, 3) := by decide +kernel
theorem dJ9_min_7cf53_9 : decode cJ9_min_7cf53 9 = .ok (.iload_n 1, 1) := by decide +kernel
theorem dJ9_min_7cf53_10 : decode cJ9_min_7cf53 10 = .ok (.ireturn, 1) := by decide +kernel
theorem dJ9_min_f86c9_0 : decode cJ9_min_f86c9 0 = .ok (.lload_n 0, 1) := by decide +kernel
theorem dJ9_min_f86c9_1 : decode cJ9_min_f86c9 1 = .ok (.lload_n 2, 1) := by decide +kernel
theorem dJ9_min_f86c9_2 : decode cJ9_min_f86c9 2 = .ok (.lcmp, 1) := by decide +kernel
theorem dJ9_min_f86c9_3 : decode cJ9_min_f86c9 3 = .ok (.ifCond .gt 7, 3) := by decide +kernel
theorem dJ9_min_f86c9_6 : decode cJ9_min_f86c9 6 = .ok (.lload_n 0, 1) := by decide +kernel
theorem dJ9_min_f86c9_7 : decode cJ9_min_f86c9 7 = .ok (.goto 4, 3) := by decide +kernel
theorem dJ9_min_f86c9_10 : decode cJ9_min_f86c9 10 = .ok (.lload_n 2, 1) := by decide +kernel
theorem dJ9_min_f86c9_11 : decode cJ9_min_f86c9 11 = .ok (.lreturn, 1) := by decide +kernel
end
section
theorem dX12_agree_0 : decode cX12_agree 0 = .ok (.aload_n 0, 1) := by decide +kernel
theorem dX12_agree_1 : decode cX12_agree 1 = .ok (.iconst 0, 1) := by decide +kernel
theorem dX12_agree_2 : decode cX12_agree 2 = .ok (.putfield 138, 3) := by decide +kernel
theorem dX12_agree_5 : decode cX12_agree 5 = .ok (.iload_n 1, 1) := by decide +kernel
theorem dX12_agree_6 : decode cX12_agree 6 = .ok (.invokestatic 338, 3) := by decide +kernel
theorem dX12_agree_9 : decode cX12_agree 9 = .ok (.ifCond .eq 33, 3) := by decide +kernel
theorem dX12_agree_12 : decode cX12_agree 12 = .ok (.iload_n 2, 1) := by decide +kernel
theorem dX12_agree_13 : decode cX12_agree 13 = .ok (.invokestatic 338, 3) := by decide +kernel
theorem dX12_agree_16 : decode cX12_agree 16 = .ok (.ifCond .eq 26, 3) := by decide +kernel
theorem dX12_agree_19 : decode cX12_agree 19 = .ok (.iload_n 1, 1) := by decide +kernel
theorem dX12_agree_20 : decode cX12_agree 20 = .ok (.iload_n 2, 1) := by decide +kernel
theorem dX12_agree_21 : decode cX12_agree 21 = .ok (.if_icmp .eq 21, 3) := by decide +kernel
theorem dX12_agree_24 : decode cX12_agree 24 = .ok (.aload_n 0, 1) := by decide +kernel
theorem dX12_agree_25 : decode cX12_agree 25 = .ok (.iload_n 3, 1) := by decide +kernel
theorem dX12_agree_26 : decode cX12_agree 26 = .ok (.invokevirtual 159, 3) := by decide +kernel
theorem dX12_agree_29 : decode cX12_agree 29 = .ok (.ifCond .eq 13, 3) := by decide +kernel
theorem dX12_agree_32 : decode cX12_agree 32 = .ok (.iload 4, 2) := by decide +kernel
theorem dX12_agree_34 : decode cX12_agree 34 = .ok (.iconst 0, 1) := by decide +kernel
theorem dX12_agree_35 : decode cX12_agree 35 = .ok (.iconst 1, 1) := by decide +kernel
theorem dX12_agree_36 : decode cX12_agree 36 = .ok (.invokestatic 145, 3) := by decide +kernel
theorem dX12_agree_39 : decode cX12_agree 39 = .ok (.ifCond .ne 5, 3) := by decide +kernel
theorem dX12_agree_42 : decode cX12_agree 42 = .ok (.iconst (-1), 1) := by decide +kernel
theorem dX12_agree_43 : decode cX12_agree 43 = .ok (.ireturn, 1) := by decide +kernel
theorem dX12_agree_44 : decode cX12_agree 44 = .ok (.iconst 0, 1) := by decide +kernel
theorem dX12_agree_45 : decode cX12_agree 45 = .ok (.istore 5, 2) := by decide +kernel
theorem dX12_agree_47 : decode cX12_agree 47 = .ok (.iconst 0, 1) := by decide +kernel
theorem dX12_agree_48 : decode cX12_agree 48 = .ok (.istore 6, 2) := by decide +kernel
theorem dX12_agree_50 : decode cX12_agree 50 = .ok (.iload 6, 2) := by decide +kernel
theorem dX12_agree_52 : decode cX12_agree 52 = .ok (.aload_n 0, 1) := by decide +kernel
theorem dX12_agree_53 : decode cX12_agree 53 = .ok (.getfield 152, 3) := by decide +kernel
theorem dX12_agree_56 : decode cX12_agree 56 = .ok (.if_icmp .ge 64, 3) := by decide +kernel
theorem dX12_agree_59 : decode cX12_agree 59 = .ok (.aload_n 0, 1) := by decide +kernel
theorem dX12_agree_60 : decode cX12_agree 60 = .ok (.iload_n 1, 1) := by decide +kernel
theorem dX12_agree_61 : decode cX12_agree 61 = .ok (.iload 6, 2) := by decide +kernel
theorem dX12_agree_63 : decode cX12_agree 63 = .ok (.iload_n 3, 1) := by decide +kernel
theorem dX12_agree_64 : decode cX12_agree 64 = .ok (.invokevirtual 341, 3) := by decide +kernel
theorem dX12_agree_67 : decode cX12_agree 67 = .ok (.istore 7, 2) := by decide +kernel
theorem dX12_agree_69 : decode cX12_agree 69 = .ok (.aload_n 0, 1) := by decide +kernel
theorem dX12_agree_70 : decode cX12_agree 70 = .ok (.iload_n 2, 1) := by decide +kernel
theorem dX12_agree_71 : decode cX12_agree 71 = .ok (.iload 6, 2) := by decide +kernel
theorem dX12_agree_73 : decode cX12_agree 73 = .ok (.iload_n 3, 1) := by decide +kernel
theorem dX12_agree_74 : decode cX12_agree 74 = .ok (.invokevirtual 341, 3) := by decide +kernel
theorem dX12_agree_77 : decode cX12_agree 77 = .ok (.istore 8, 2) := by decide +kernel
theorem dX12_agree_79 : decode cX12_agree 79 = .ok (.iload 5, 2) := by decide +kernel
theorem dX12_agree_81 : decode cX12_agree 81 = .ok (.iload 7, 2) := by decide +kernel
theorem dX12_agree_83 : decode cX12_agree 83 = .ok (.iconst (-1), 1) := by decide +kernel
theorem dX12_agree_84 : decode cX12_agree 84 = .ok (.if_icmp .eq 26, 3) := by decide +kernel
theorem dX12_agree_87 : decode cX12_agree 87 = .ok (.iload 8, 2) := by decide +kernel
theorem dX12_agree_89 : decode cX12_agree 89 = .ok (.iconst (-1), 1) := by decide +kernel
theorem dX12_agree_90 : decode cX12_agree 90 = .ok (.if_icmp .eq 20, 3) := by decide +kernel
theorem dX12_agree_93 : decode cX12_agree 93 = .ok (.iload 4, 2) := by decide +kernel
theorem dX12_agree_95 : decode cX12_agree 95 = .ok (.iconst 1, 1) := by decide +kernel
theorem dX12_agree_96 : decode cX12_agree 96 = .ok (.if_icmp .eq 10, 3) := by decide +kernel
theorem dX12_agree_99 : decode cX12_agree 99 = .ok (.iload 7, 2) := by decide +kernel
theorem dX12_agree_101 : decode cX12_agree 101 = .ok (.iload 8, 2) := by decide +kernel
theorem dX12_agree_103 : decode cX12_agree 103 = .ok (.if_icmp .ne 7, 3) := by decide +kernel
theorem dX12_agree_106 : decode cX12_agree 106 = .ok (.iconst 1, 1) := by decide +kernel
theorem dX12_agree_107 : decode cX12_agree 107 = .ok (.goto 4, 3) := by decide +kernel
theorem dX12_agree_110 : decode cX12_agree 110 = .ok (.iconst 0, 1) := by decide +kernel
theorem dX12_agree_111 : decode cX12_agree 111 = .ok (.iadd, 1) := by decide +kernel
theorem dX12_agree_112 : decode cX12_agree 112 = .ok (.istore 5, 2) := by decide +kernel
theorem dX12_agree_114 : decode cX12_agree 114 = .ok (.iinc 6 1, 3) := by decide +kernel
theorem dX12_agree_117 : decode cX12_agree 117 = .ok (.goto (-67), 3) := by decide +kernel
theorem dX12_agree_120 : decode cX12_agree 120 = .ok (.iload 5, 2) := by decide +kernel
theorem dX12_agree_122 : decode cX12_agree 122 = .ok (.ireturn, 1) := by decide +kernel
theorem dX12_alike_0 : decode cX12_alike 0 = .ok (.aload_n 0, 1) := by decide +kernel
theorem dX12_alike_1 : decode cX12_alike 1 = .ok (.iconst 0, 1) := by decide +kernel
theorem dX12_alike_2 : decode cX12_alike 2 = .ok (.putfield 138, 3) := by decide +kernel
theorem dX12_alike_5 : decode cX12_alike 5 = .ok (.aload_n 0, 1) := by decide +kernel
theorem dX12_alike_6 : decode cX12_alike 6 = .ok (.iload_n 1, 1) := by decide +kernel
theorem dX12_alike_7 : decode cX12_alike 7 = .ok (.invokevirtual 165, 3) := by decide +kernel
theorem dX12_alike_10 : decode cX12_alike 10 = .ok (.ifCond .eq 22, 3) := by decide +kernel
theorem dX12_alike_13 : decode cX12_alike 13 = .ok (.iload_n 2, 1) := by decide +kernel
theorem dX12_alike_14 : decode cX12_alike 14 = .ok (.iconst 0, 1) := by decide +kernel
theorem dX12_alike_15 : decode cX12_alike 15 = .ok (.bipush 7, 2) := by decide +kernel
theorem dX12_alike_17 : decode cX12_alike 17 = .ok (.invokestatic 145, 3) := by decide +kernel
theorem dX12_alike_20 : decode cX12_alike 20 = .ok (.ifCond .eq 12, 3) := by decide +kernel
theorem dX12_alike_23 : decode cX12_alike 23 = .ok (.aload_n 0, 1) := by decide +kernel
theorem dX12_alike_24 : decode cX12_alike 24 = .ok (.iload_n 1, 1) := by decide +kernel
theorem dX12_alike_25 : decode cX12_alike 25 = .ok (.iload_n 2, 1) := by decide +kernel
theorem dX12_alike_26 : decode cX12_alike 26 = .ok (.invokevirtual 385, 3) := by decide +kernel
theorem dX12_alike_29 : decode cX12_alike 29 = .ok (.goto 4, 3) := by decide +kernel
theorem dX12_alike_32 : decode cX12_alike 32 = .ok (.iconst (-1), 1) := by decide +kernel
theorem dX12_alike_33 : decode cX12_alike 33 = .ok (.ireturn, 1) := by decide +kernel
theorem dX12_alikeOf_0 : decode cX12_alikeOf 0 = .ok (.iconst 0, 1) := by decide +kernel
theorem dX12_alikeOf_1 : decode cX12_alikeOf 1 = .ok (.istore_n 3, 1) := by decide +kernel
theorem dX12_alikeOf_2 : decode cX12_alikeOf 2 = .ok (.iconst 0, 1) := by decide +kernel
theorem dX12_alikeOf_3 : decode cX12_alikeOf 3 = .ok (.istore 4, 2) := by decide +kernel
theorem dX12_alikeOf_5 : decode cX12_alikeOf 5 = .ok (.iload 4, 2) := by decide +kernel
theorem dX12_alikeOf_7 : decode cX12_alikeOf 7 = .ok (.aload_n 0, 1) := by decide +kernel
theorem dX12_alikeOf_8 : decode cX12_alikeOf 8 = .ok (.getfield 149, 3) := by decide +kernel
theorem dX12_alikeOf_11 : decode cX12_alikeOf 11 = .ok (.if_icmp .ge 93, 3) := by decide +kernel
theorem dX12_alikeOf_14 : decode cX12_alikeOf 14 = .ok (.iload_n 2, 1) := by decide +kernel
theorem dX12_alikeOf_15 : decode cX12_alikeOf 15 = .ok (.iconst 1, 1) := by decide +kernel
theorem dX12_alikeOf_16 : decode cX12_alikeOf 16 = .ok (.iand, 1) := by decide +kernel
theorem dX12_alikeOf_17 : decode cX12_alikeOf 17 = .ok (.ifCond .eq 19, 3) := by decide +kernel
theorem dX12_alikeOf_20 : decode cX12_alikeOf 20 = .ok (.aload_n 0, 1) := by decide +kernel
theorem dX12_alikeOf_21 : decode cX12_alikeOf 21 = .ok (.getfield 9, 3) := by decide +kernel
theorem dX12_alikeOf_24 : decode cX12_alikeOf 24 = .ok (.iload 4, 2) := by decide +kernel
theorem dX12_alikeOf_26 : decode cX12_alikeOf 26 = .ok (.iaload, 1) := by decide +kernel
theorem dX12_alikeOf_27 : decode cX12_alikeOf 27 = .ok (.aload_n 0, 1) := by decide +kernel
theorem dX12_alikeOf_28 : decode cX12_alikeOf 28 = .ok (.getfield 9, 3) := by decide +kernel
theorem dX12_alikeOf_31 : decode cX12_alikeOf 31 = .ok (.iload_n 1, 1) := by decide +kernel
theorem dX12_alikeOf_32 : decode cX12_alikeOf 32 = .ok (.iaload, 1) := by decide +kernel
theorem dX12_alikeOf_33 : decode cX12_alikeOf 33 = .ok (.if_icmp .ne 49, 3) := by decide +kernel
theorem dX12_alikeOf_36 : decode cX12_alikeOf 36 = .ok (.iload_n 2, 1) := by decide +kernel
theorem dX12_alikeOf_37 : decode cX12_alikeOf 37 = .ok (.iconst 2, 1) := by decide +kernel
theorem dX12_alikeOf_38 : decode cX12_alikeOf 38 = .ok (.iand, 1) := by decide +kernel
theorem dX12_alikeOf_39 : decode cX12_alikeOf 39 = .ok (.ifCond .eq 17, 3) := by decide +kernel
theorem dX12_alikeOf_42 : decode cX12_alikeOf 42 = .ok (.aload_n 0, 1) := by decide +kernel
theorem dX12_alikeOf_43 : decode cX12_alikeOf 43 = .ok (.iload 4, 2) := by decide +kernel
theorem dX12_alikeOf_45 : decode cX12_alikeOf 45 = .ok (.invokevirtual 348, 3) := by decide +kernel
theorem dX12_alikeOf_48 : decode cX12_alikeOf 48 = .ok (.aload_n 0, 1) := by decide +kernel
theorem dX12_alikeOf_49 : decode cX12_alikeOf 49 = .ok (.iload_n 1, 1) := by decide +kernel
theorem dX12_alikeOf_50 : decode cX12_alikeOf 50 = .ok (.invokevirtual 348, 3) := by decide +kernel
theorem dX12_alikeOf_53 : decode cX12_alikeOf 53 = .ok (.if_icmp .ne 29, 3) := by decide +kernel
theorem dX12_alikeOf_56 : decode cX12_alikeOf 56 = .ok (.iload_n 2, 1) := by decide +kernel
theorem dX12_alikeOf_57 : decode cX12_alikeOf 57 = .ok (.iconst 4, 1) := by decide +kernel
theorem dX12_alikeOf_58 : decode cX12_alikeOf 58 = .ok (.iand, 1) := by decide +kernel
theorem dX12_alikeOf_59 : decode cX12_alikeOf 59 = .ok (.ifCond .eq 19, 3) := by decide +kernel
theorem dX12_alikeOf_62 : decode cX12_alikeOf 62 = .ok (.aload_n 0, 1) := by decide +kernel
theorem dX12_alikeOf_63 : decode cX12_alikeOf 63 = .ok (.getfield 16, 3) := by decide +kernel
theorem dX12_alikeOf_66 : decode cX12_alikeOf 66 = .ok (.iload 4, 2) := by decide +kernel
theorem dX12_alikeOf_68 : decode cX12_alikeOf 68 = .ok (.iaload, 1) := by decide +kernel
theorem dX12_alikeOf_69 : decode cX12_alikeOf 69 = .ok (.aload_n 0, 1) := by decide +kernel
theorem dX12_alikeOf_70 : decode cX12_alikeOf 70 = .ok (.getfield 16, 3) := by decide +kernel
theorem dX12_alikeOf_73 : decode cX12_alikeOf 73 = .ok (.iload_n 1, 1) := by decide +kernel
theorem dX12_alikeOf_74 : decode cX12_alikeOf 74 = .ok (.iaload, 1) := by decide +kernel
theorem dX12_alikeOf_75 : decode cX12_alikeOf 75 = .ok (.if_icmp .ne 7, 3) := by decide +kernel
theorem dX12_alikeOf_78 : decode cX12_alikeOf 78 = .ok (.iconst 1, 1) := by decide +kernel
theorem dX12_alikeOf_79 : decode cX12_alikeOf 79 = .ok (.goto 4, 3) := by decide +kernel
theorem dX12_alikeOf_82 : decode cX12_alikeOf 82 = .ok (.iconst 0, 1) := by decide +kernel
theorem dX12_alikeOf_83 : decode cX12_alikeOf 83 = .ok (.istore 5, 2) := by decide +kernel
theorem dX12_alikeOf_85 : decode cX12_alikeOf 85 = .ok (.iload_n 3, 1) := by decide +kernel
theorem dX12_alikeOf_86 : decode cX12_alikeOf 86 = .ok (.iload 5, 2) := by decide +kernel
theorem dX12_alikeOf_88 : decode cX12_alikeOf 88 = .ok (.ifCond .eq 7, 3) := by decide +kernel
theorem dX12_alikeOf_91 : decode cX12_alikeOf 91 = .ok (.iconst 1, 1) := by decide +kernel
theorem dX12_alikeOf_92 : decode cX12_alikeOf 92 = .ok (.goto 4, 3) := by decide +kernel
theorem dX12_alikeOf_95 : decode cX12_alikeOf 95 = .ok (.iconst 0, 1) := by decide +kernel
theorem dX12_alikeOf_96 : decode cX12_alikeOf 96 = .ok (.iadd, 1) := by decide +kernel
theorem dX12_alikeOf_97 : decode cX12_alikeOf 97 = .ok (.istore_n 3, 1) := by decide +kernel
theorem dX12_alikeOf_98 : decode cX12_alikeOf 98 = .ok (.iinc 4 1, 3) := by decide +kernel
theorem dX12_alikeOf_101 : decode cX12_alikeOf 101 = .ok (.goto (-96), 3) := by decide +kernel
theorem dX12_alikeOf_104 : decode cX12_alikeOf 104 = .ok (.iload_n 3, 1) := by decide +kernel
theorem dX12_alikeOf_105 : decode cX12_alikeOf 105 = .ok (.ireturn, 1) := by decide +kernel
theorem dX12_bearers_0 : decode cX12_bearers 0 = .ok (.aload_n 0, 1) := by decide +kernel
theorem dX12_bearers_1 : decode cX12_bearers 1 = .ok (.iconst 0, 1) := by decide +kernel
theorem dX12_bearers_2 : decode cX12_bearers 2 = .ok (.putfield 138, 3) := by decide +kernel
theorem dX12_bearers_5 : decode cX12_bearers 5 = .ok (.iload_n 1, 1) := by decide +kernel
theorem dX12_bearers_6 : decode cX12_bearers 6 = .ok (.iconst 0, 1) := by decide +kernel
theorem dX12_bearers_7 : decode cX12_bearers 7 = .ok (.bipush 29, 2) := by decide +kernel
theorem dX12_bearers_9 : decode cX12_bearers 9 = .ok (.invokestatic 145, 3) := by decide +kernel
theorem dX12_bearers_12 : decode cX12_bearers 12 = .ok (.ifCond .eq 11, 3) := by decide +kernel
theorem dX12_bearers_15 : decode cX12_bearers 15 = .ok (.aload_n 0, 1) := by decide +kernel
theorem dX12_bearers_16 : decode cX12_bearers 16 = .ok (.iload_n 2, 1) := by decide +kernel
theorem dX12_bearers_17 : decode cX12_bearers 17 = .ok (.invokevirtual 159, 3) := by decide +kernel
theorem dX12_bearers_20 : decode cX12_bearers 20 = .ok (.ifCond .ne 5, 3) := by decide +kernel
theorem dX12_bearers_23 : decode cX12_bearers 23 = .ok (.iconst (-1), 1) := by decide +kernel
theorem dX12_bearers_24 : decode cX12_bearers 24 = .ok (.ireturn, 1) := by decide +kernel
theorem dX12_bearers_25 : decode cX12_bearers 25 = .ok (.iconst 0, 1) := by decide +kernel
theorem dX12_bearers_26 : decode cX12_bearers 26 = .ok (.istore_n 3, 1) := by decide +kernel
theorem dX12_bearers_27 : decode cX12_bearers 27 = .ok (.iconst 0, 1) := by decide +kernel
theorem dX12_bearers_28 : decode cX12_bearers 28 = .ok (.istore 4, 2) := by decide +kernel
theorem dX12_bearers_30 : decode cX12_bearers 30 = .ok (.iload 4, 2) := by decide +kernel
theorem dX12_bearers_32 : decode cX12_bearers 32 = .ok (.aload_n 0, 1) := by decide +kernel
theorem dX12_bearers_33 : decode cX12_bearers 33 = .ok (.getfield 149, 3) := by decide +kernel
theorem dX12_bearers_36 : decode cX12_bearers 36 = .ok (.if_icmp .ge 29, 3) := by decide +kernel
theorem dX12_bearers_39 : decode cX12_bearers 39 = .ok (.iload_n 3, 1) := by decide +kernel
theorem dX12_bearers_40 : decode cX12_bearers 40 = .ok (.aload_n 0, 1) := by decide +kernel
theorem dX12_bearers_41 : decode cX12_bearers 41 = .ok (.iload 4, 2) := by decide +kernel
theorem dX12_bearers_43 : decode cX12_bearers 43 = .ok (.iload_n 1, 1) := by decide +kernel
theorem dX12_bearers_44 : decode cX12_bearers 44 = .ok (.iload_n 2, 1) := by decide +kernel
theorem dX12_bearers_45 : decode cX12_bearers 45 = .ok (.invokevirtual 332, 3) := by decide +kernel
theorem dX12_bearers_48 : decode cX12_bearers 48 = .ok (.iconst (-1), 1) := by decide +kernel
theorem dX12_bearers_49 : decode cX12_bearers 49 = .ok (.if_icmp .eq 7, 3) := by decide +kernel
theorem dX12_bearers_52 : decode cX12_bearers 52 = .ok (.iconst 1, 1) := by decide +kernel
theorem dX12_bearers_53 : decode cX12_bearers 53 = .ok (.goto 4, 3) := by decide +kernel
theorem dX12_bearers_56 : decode cX12_bearers 56 = .ok (.iconst 0, 1) := by decide +kernel
theorem dX12_bearers_57 : decode cX12_bearers 57 = .ok (.iadd, 1) := by decide +kernel
theorem dX12_bearers_58 : decode cX12_bearers 58 = .ok (.istore_n 3, 1) := by decide +kernel
theorem dX12_bearers_59 : decode cX12_bearers 59 = .ok (.iinc 4 1, 3) := by decide +kernel
theorem dX12_bearers_62 : decode cX12_bearers 62 = .ok (.goto (-32), 3) := by decide +kernel
theorem dX12_bearers_65 : decode cX12_bearers 65 = .ok (.iload_n 3, 1) := by decide +kernel
theorem dX12_bearers_66 : decode cX12_bearers 66 = .ok (.ireturn, 1) := by decide +kernel
theorem dX12_buy_0 : decode cX12_buy 0 = .ok (.aload_n 0, 1) := by decide +kernel
theorem dX12_buy_1 : decode cX12_buy 1 = .ok (.iconst 0, 1) := by decide +kernel
theorem dX12_buy_2 : decode cX12_buy 2 = .ok (.putfield 138, 3) := by decide +kernel
theorem dX12_buy_5 : decode cX12_buy 5 = .ok (.iload_n 1, 1) := by decide +kernel
theorem dX12_buy_6 : decode cX12_buy 6 = .ok (.iconst 0, 1) := by decide +kernel
theorem dX12_buy_7 : decode cX12_buy 7 = .ok (.sipush 400, 3) := by decide +kernel
theorem dX12_buy_10 : decode cX12_buy 10 = .ok (.invokestatic 145, 3) := by decide +kernel
theorem dX12_buy_13 : decode cX12_buy 13 = .ok (.ifCond .ne 5, 3) := by decide +kernel
theorem dX12_buy_16 : decode cX12_buy 16 = .ok (.iconst (-1), 1) := by decide +kernel
theorem dX12_buy_17 : decode cX12_buy 17 = .ok (.ireturn, 1) := by decide +kernel
theorem dX12_buy_18 : decode cX12_buy 18 = .ok (.iconst 0, 1) := by decide +kernel
theorem dX12_buy_19 : decode cX12_buy 19 = .ok (.istore_n 2, 1) := by decide +kernel
theorem dX12_buy_20 : decode cX12_buy 20 = .ok (.iconst 1, 1) := by decide +kernel
theorem dX12_buy_21 : decode cX12_buy 21 = .ok (.istore_n 3, 1) := by decide +kernel
theorem dX12_buy_22 : decode cX12_buy 22 = .ok (.iload_n 3, 1) := by decide +kernel
theorem dX12_buy_23 : decode cX12_buy 23 = .ok (.iconst 1, 1) := by decide +kernel
theorem dX12_buy_24 : decode cX12_buy 24 = .ok (.aload_n 0, 1) := by decide +kernel
theorem dX12_buy_25 : decode cX12_buy 25 = .ok (.getfield 393, 3) := by decide +kernel
theorem dX12_buy_28 : decode cX12_buy 28 = .ok (.ishl, 1) := by decide +kernel
theorem dX12_buy_29 : decode cX12_buy 29 = .ok (.if_icmp .ge 81, 3) := by decide +kernel
theorem dX12_buy_32 : decode cX12_buy 32 = .ok (.aload_n 0, 1) := by decide +kernel
theorem dX12_buy_33 : decode cX12_buy 33 = .ok (.iload_n 3, 1) := by decide +kernel
theorem dX12_buy_34 : decode cX12_buy 34 = .ok (.invokevirtual 396, 3) := by decide +kernel
theorem dX12_buy_37 : decode cX12_buy 37 = .ok (.iload_n 1, 1) := by decide +kernel
theorem dX12_buy_38 : decode cX12_buy 38 = .ok (.if_icmp .le 6, 3) := by decide +kernel
theorem dX12_buy_41 : decode cX12_buy 41 = .ok (.goto 63, 3) := by decide +kernel
theorem dX12_buy_44 : decode cX12_buy 44 = .ok (.aload_n 0, 1) := by decide +kernel
theorem dX12_buy_45 : decode cX12_buy 45 = .ok (.iload_n 3, 1) := by decide +kernel
theorem dX12_buy_46 : decode cX12_buy 46 = .ok (.invokevirtual 399, 3) := by decide +kernel
theorem dX12_buy_49 : decode cX12_buy 49 = .ok (.aload_n 0, 1) := by decide +kernel
theorem dX12_buy_50 : decode cX12_buy 50 = .ok (.iload_n 2, 1) := by decide +kernel
theorem dX12_buy_51 : decode cX12_buy 51 = .ok (.invokevirtual 399, 3) := by decide +kernel
theorem dX12_buy_54 : decode cX12_buy 54 = .ok (.isub, 1) := by decide +kernel
theorem dX12_buy_55 : decode cX12_buy 55 = .ok (.istore 4, 2) := by decide +kernel
theorem dX12_buy_57 : decode cX12_buy 57 = .ok (.iload 4, 2) := by decide +kernel
theorem dX12_buy_59 : decode cX12_buy 59 = .ok (.ifCond .ne 16, 3) := by decide +kernel
theorem dX12_buy_62 : decode cX12_buy 62 = .ok (.aload_n 0, 1) := by decide +kernel
theorem dX12_buy_63 : decode cX12_buy 63 = .ok (.iload_n 2, 1) := by decide +kernel
theorem dX12_buy_64 : decode cX12_buy 64 = .ok (.invokevirtual 396, 3) := by decide +kernel
theorem dX12_buy_67 : decode cX12_buy 67 = .ok (.aload_n 0, 1) := by decide +kernel
theorem dX12_buy_68 : decode cX12_buy 68 = .ok (.iload_n 3, 1) := by decide +kernel
theorem dX12_buy_69 : decode cX12_buy 69 = .ok (.invokevirtual 396, 3) := by decide +kernel
theorem dX12_buy_72 : decode cX12_buy 72 = .ok (.isub, 1) := by decide +kernel
theorem dX12_buy_73 : decode cX12_buy 73 = .ok (.istore 4, 2) := by decide +kernel
theorem dX12_buy_75 : decode cX12_buy 75 = .ok (.iload_n 3, 1) := by decide +kernel
theorem dX12_buy_76 : decode cX12_buy 76 = .ok (.iload_n 2, 1) := by decide +kernel
theorem dX12_buy_77 : decode cX12_buy 77 = .ok (.ixor, 1) := by decide +kernel
theorem dX12_buy_78 : decode cX12_buy 78 = .ok (.iload_n 3, 1) := by decide +kernel
theorem dX12_buy_79 : decode cX12_buy 79 = .ok (.iload_n 2, 1) := by decide +kernel
theorem dX12_buy_80 : decode cX12_buy 80 = .ok (.ixor, 1) := by decide +kernel
theorem dX12_buy_81 : decode cX12_buy 81 = .ok (.ineg, 1) := by decide +kernel
theorem dX12_buy_82 : decode cX12_buy 82 = .ok (.iand, 1) := by decide +kernel
theorem dX12_buy_83 : decode cX12_buy 83 = .ok (.istore 5, 2) := by decide +kernel
theorem dX12_buy_85 : decode cX12_buy 85 = .ok (.iload 4, 2) := by decide +kernel
theorem dX12_buy_87 : decode cX12_buy 87 = .ok (.ifCond .gt 15, 3) := by decide +kernel
theorem dX12_buy_90 : decode cX12_buy 90 = .ok (.iload 4, 2) := by decide +kernel
theorem dX12_buy_92 : decode cX12_buy 92 = .ok (.ifCond .ne 12, 3) := by decide +kernel
theorem dX12_buy_95 : decode cX12_buy 95 = .ok (.iload_n 3, 1) := by decide +kernel
theorem dX12_buy_96 : decode cX12_buy 96 = .ok (.iload 5, 2) := by decide +kernel
theorem dX12_buy_98 : decode cX12_buy 98 = .ok (.iand, 1) := by decide +kernel
theorem dX12_buy_99 : decode cX12_buy 99 = .ok (.ifCond .eq 5, 3) := by decide +kernel
theorem dX12_buy_102 : decode cX12_buy 102 = .ok (.iload_n 3, 1) := by decide +kernel
theorem dX12_buy_103 : decode cX12_buy 103 = .ok (.istore_n 2, 1) := by decide +kernel
theorem dX12_buy_104 : decode cX12_buy 104 = .ok (.iinc 3 1, 3) := by decide +kernel
theorem dX12_buy_107 : decode cX12_buy 107 = .ok (.goto (-85), 3) := by decide +kernel
theorem dX12_buy_110 : decode cX12_buy 110 = .ok (.iload_n 2, 1) := by decide +kernel
theorem dX12_buy_111 : decode cX12_buy 111 = .ok (.ireturn, 1) := by decide +kernel
theorem dX12_bytesIn_0 : decode cX12_bytesIn 0 = .ok (.iconst 0, 1) := by decide +kernel
theorem dX12_bytesIn_1 : decode cX12_bytesIn 1 = .ok (.istore_n 1, 1) := by decide +kernel
theorem dX12_bytesIn_2 : decode cX12_bytesIn 2 = .ok (.bipush 24, 2) := by decide +kernel
theorem dX12_bytesIn_4 : decode cX12_bytesIn 4 = .ok (.istore_n 2, 1) := by decide +kernel
theorem dX12_bytesIn_5 : decode cX12_bytesIn 5 = .ok (.iload_n 2, 1) := by decide +kernel
theorem dX12_bytesIn_6 : decode cX12_bytesIn 6 = .ok (.ifCond .lt 27, 3) := by decide +kernel
theorem dX12_bytesIn_9 : decode cX12_bytesIn 9 = .ok (.iload_n 1, 1) := by decide +kernel
theorem dX12_bytesIn_10 : decode cX12_bytesIn 10 = .ok (.iload_n 0, 1) := by decide +kernel
theorem dX12_bytesIn_11 : decode cX12_bytesIn 11 = .ok (.iload_n 2, 1) := by decide +kernel
theorem dX12_bytesIn_12 : decode cX12_bytesIn 12 = .ok (.ishr, 1) := by decide +kernel
theorem dX12_bytesIn_13 : decode cX12_bytesIn 13 = .ok (.sipush 255, 3) := by decide +kernel
theorem dX12_bytesIn_16 : decode cX12_bytesIn 16 = .ok (.iand, 1) := by decide +kernel
theorem dX12_bytesIn_17 : decode cX12_bytesIn 17 = .ok (.ifCond .eq 7, 3) := by decide +kernel
theorem dX12_bytesIn_20 : decode cX12_bytesIn 20 = .ok (.iconst 1, 1) := by decide +kernel
theorem dX12_bytesIn_21 : decode cX12_bytesIn 21 = .ok (.goto 4, 3) := by decide +kernel
theorem dX12_bytesIn_24 : decode cX12_bytesIn 24 = .ok (.iconst 0, 1) := by decide +kernel
theorem dX12_bytesIn_25 : decode cX12_bytesIn 25 = .ok (.iadd, 1) := by decide +kernel
theorem dX12_bytesIn_26 : decode cX12_bytesIn 26 = .ok (.istore_n 1, 1) := by decide +kernel
theorem dX12_bytesIn_27 : decode cX12_bytesIn 27 = .ok (.iinc 2 (-8), 3) := by decide +kernel
theorem dX12_bytesIn_30 : decode cX12_bytesIn 30 = .ok (.goto (-25), 3) := by decide +kernel
theorem dX12_bytesIn_33 : decode cX12_bytesIn 33 = .ok (.iload_n 1, 1) := by decide +kernel
theorem dX12_bytesIn_34 : decode cX12_bytesIn 34 = .ok (.ireturn, 1) := by decide +kernel
theorem dX12_count_0 : decode cX12_count 0 = .ok (.aload_n 0, 1) := by decide +kernel
theorem dX12_count_1 : decode cX12_count 1 = .ok (.iconst 0, 1) := by decide +kernel
theorem dX12_count_2 : decode cX12_count 2 = .ok (.putfield 138, 3) := by decide +kernel
theorem dX12_count_5 : decode cX12_count 5 = .ok (.iload_n 1, 1) := by decide +kernel
theorem dX12_count_6 : decode cX12_count 6 = .ok (.tableswitch 157 0 11 #[62, 67, 72, 77, 82, 87, 92, 97, 102, 107, 112, 152], 62) := by decide +kernel
theorem dX12_count_68 : decode cX12_count 68 = .ok (.aload_n 0, 1) := by decide +kernel
theorem dX12_count_69 : decode cX12_count 69 = .ok (.getfield 142, 3) := by decide +kernel
theorem dX12_count_72 : decode cX12_count 72 = .ok (.ireturn, 1) := by decide +kernel
theorem dX12_count_73 : decode cX12_count 73 = .ok (.aload_n 0, 1) := by decide +kernel
theorem dX12_count_74 : decode cX12_count 74 = .ok (.getfield 149, 3) := by decide +kernel
theorem dX12_count_77 : decode cX12_count 77 = .ok (.ireturn, 1) := by decide +kernel
theorem dX12_count_78 : decode cX12_count 78 = .ok (.aload_n 0, 1) := by decide +kernel
theorem dX12_count_79 : decode cX12_count 79 = .ok (.getfield 152, 3) := by decide +kernel
theorem dX12_count_82 : decode cX12_count 82 = .ok (.ireturn, 1) := by decide +kernel
theorem dX12_count_83 : decode cX12_count 83 = .ok (.aload_n 0, 1) := by decide +kernel
theorem dX12_count_84 : decode cX12_count 84 = .ok (.getfield 289, 3) := by decide +kernel
theorem dX12_count_87 : decode cX12_count 87 = .ok (.ireturn, 1) := by decide +kernel
theorem dX12_count_88 : decode cX12_count 88 = .ok (.aload_n 0, 1) := by decide +kernel
theorem dX12_count_89 : decode cX12_count 89 = .ok (.getfield 329, 3) := by decide +kernel
theorem dX12_count_92 : decode cX12_count 92 = .ok (.ireturn, 1) := by decide +kernel
theorem dX12_count_93 : decode cX12_count 93 = .ok (.aload_n 0, 1) := by decide +kernel
theorem dX12_count_94 : decode cX12_count 94 = .ok (.getfield 335, 3) := by decide +kernel
theorem dX12_count_97 : decode cX12_count 97 = .ok (.ireturn, 1) := by decide +kernel
theorem dX12_count_98 : decode cX12_count 98 = .ok (.aload_n 0, 1) := by decide +kernel
theorem dX12_count_99 : decode cX12_count 99 = .ok (.getfield 369, 3) := by decide +kernel
theorem dX12_count_102 : decode cX12_count 102 = .ok (.ireturn, 1) := by decide +kernel
theorem dX12_count_103 : decode cX12_count 103 = .ok (.aload_n 0, 1) := by decide +kernel
theorem dX12_count_104 : decode cX12_count 104 = .ok (.getfield 372, 3) := by decide +kernel
theorem dX12_count_107 : decode cX12_count 107 = .ok (.ireturn, 1) := by decide +kernel
theorem dX12_count_108 : decode cX12_count 108 = .ok (.aload_n 0, 1) := by decide +kernel
theorem dX12_count_109 : decode cX12_count 109 = .ok (.getfield 393, 3) := by decide +kernel
theorem dX12_count_112 : decode cX12_count 112 = .ok (.ireturn, 1) := by decide +kernel
theorem dX12_count_113 : decode cX12_count 113 = .ok (.aload_n 0, 1) := by decide +kernel
theorem dX12_count_114 : decode cX12_count 114 = .ok (.getfield 178, 3) := by decide +kernel
theorem dX12_count_117 : decode cX12_count 117 = .ok (.ireturn, 1) := by decide +kernel
theorem dX12_count_118 : decode cX12_count 118 = .ok (.iconst 0, 1) := by decide +kernel
theorem dX12_count_119 : decode cX12_count 119 = .ok (.istore_n 2, 1) := by decide +kernel
theorem dX12_count_120 : decode cX12_count 120 = .ok (.iconst 0, 1) := by decide +kernel
theorem dX12_count_121 : decode cX12_count 121 = .ok (.istore_n 3, 1) := by decide +kernel
theorem dX12_count_122 : decode cX12_count 122 = .ok (.iload_n 3, 1) := by decide +kernel
theorem dX12_count_123 : decode cX12_count 123 = .ok (.aload_n 0, 1) := by decide +kernel
theorem dX12_count_124 : decode cX12_count 124 = .ok (.getfield 149, 3) := by decide +kernel
theorem dX12_count_127 : decode cX12_count 127 = .ok (.if_icmp .ge 29, 3) := by decide +kernel
theorem dX12_count_130 : decode cX12_count 130 = .ok (.iload_n 2, 1) := by decide +kernel
theorem dX12_count_131 : decode cX12_count 131 = .ok (.aload_n 0, 1) := by decide +kernel
theorem dX12_count_132 : decode cX12_count 132 = .ok (.iload_n 3, 1) := by decide +kernel
theorem dX12_count_133 : decode cX12_count 133 = .ok (.aload_n 0, 1) := by decide +kernel
theorem dX12_count_134 : decode cX12_count 134 = .ok (.getfield 142, 3) := by decide +kernel
theorem dX12_count_137 : decode cX12_count 137 = .ok (.invokevirtual 366, 3) := by decide +kernel
theorem dX12_count_140 : decode cX12_count 140 = .ok (.ifCond .eq 7, 3) := by decide +kernel
theorem dX12_count_143 : decode cX12_count 143 = .ok (.iconst 1, 1) := by decide +kernel
theorem dX12_count_144 : decode cX12_count 144 = .ok (.goto 4, 3) := by decide +kernel
theorem dX12_count_147 : decode cX12_count 147 = .ok (.iconst 0, 1) := by decide +kernel
theorem dX12_count_148 : decode cX12_count 148 = .ok (.iadd, 1) := by decide +kernel
theorem dX12_count_149 : decode cX12_count 149 = .ok (.istore_n 2, 1) := by decide +kernel
theorem dX12_count_150 : decode cX12_count 150 = .ok (.iinc 3 1, 3) := by decide +kernel
theorem dX12_count_153 : decode cX12_count 153 = .ok (.goto (-31), 3) := by decide +kernel
theorem dX12_count_156 : decode cX12_count 156 = .ok (.iload_n 2, 1) := by decide +kernel
theorem dX12_count_157 : decode cX12_count 157 = .ok (.ireturn, 1) := by decide +kernel
theorem dX12_count_158 : decode cX12_count 158 = .ok (.aload_n 0, 1) := by decide +kernel
theorem dX12_count_159 : decode cX12_count 159 = .ok (.invokevirtual 345, 3) := by decide +kernel
theorem dX12_count_162 : decode cX12_count 162 = .ok (.ireturn, 1) := by decide +kernel
theorem dX12_count_163 : decode cX12_count 163 = .ok (.iconst (-1), 1) := by decide +kernel
theorem dX12_count_164 : decode cX12_count 164 = .ok (.ireturn, 1) := by decide +kernel
theorem dX12_days_0 : decode cX12_days 0 = .ok (.aload_n 0, 1) := by decide +kernel
theorem dX12_days_1 : decode cX12_days 1 = .ok (.iconst 0, 1) := by decide +kernel
theorem dX12_days_2 : decode cX12_days 2 = .ok (.putfield 138, 3) := by decide +kernel
theorem dX12_days_5 : decode cX12_days 5 = .ok (.iload_n 1, 1) := by decide +kernel
theorem dX12_days_6 : decode cX12_days 6 = .ok (.iconst 0, 1) := by decide +kernel
theorem dX12_days_7 : decode cX12_days 7 = .ok (.sipush 400, 3) := by decide +kernel
theorem dX12_days_10 : decode cX12_days 10 = .ok (.invokestatic 145, 3) := by decide +kernel
theorem dX12_days_13 : decode cX12_days 13 = .ok (.ifCond .eq 15, 3) := by decide +kernel
theorem dX12_days_16 : decode cX12_days 16 = .ok (.aload_n 0, 1) := by decide +kernel
theorem dX12_days_17 : decode cX12_days 17 = .ok (.getfield 142, 3) := by decide +kernel
theorem dX12_days_20 : decode cX12_days 20 = .ok (.iload_n 1, 1) := by decide +kernel
theorem dX12_days_21 : decode cX12_days 21 = .ok (.iadd, 1) := by decide +kernel
theorem dX12_days_22 : decode cX12_days 22 = .ok (.sipush 1000, 3) := by decide +kernel
theorem dX12_days_25 : decode cX12_days 25 = .ok (.if_icmp .le 5, 3) := by decide +kernel
theorem dX12_days_28 : decode cX12_days 28 = .ok (.iconst (-1), 1) := by decide +kernel
theorem dX12_days_29 : decode cX12_days 29 = .ok (.ireturn, 1) := by decide +kernel
theorem dX12_days_30 : decode cX12_days 30 = .ok (.aload_n 0, 1) := by decide +kernel
theorem dX12_days_31 : decode cX12_days 31 = .ok (.dup, 1) := by decide +kernel
theorem dX12_days_32 : decode cX12_days 32 = .ok (.getfield 142, 3) := by decide +kernel
theorem dX12_days_35 : decode cX12_days 35 = .ok (.iload_n 1, 1) := by decide +kernel
theorem dX12_days_36 : decode cX12_days 36 = .ok (.iadd, 1) := by decide +kernel
theorem dX12_days_37 : decode cX12_days 37 = .ok (.putfield 142, 3) := by decide +kernel
theorem dX12_days_40 : decode cX12_days 40 = .ok (.aload_n 0, 1) := by decide +kernel
theorem dX12_days_41 : decode cX12_days 41 = .ok (.getfield 142, 3) := by decide +kernel
theorem dX12_days_44 : decode cX12_days 44 = .ok (.ireturn, 1) := by decide +kernel
theorem dX12_end_0 : decode cX12_end 0 = .ok (.aload_n 0, 1) := by decide +kernel
theorem dX12_end_1 : decode cX12_end 1 = .ok (.iconst 0, 1) := by decide +kernel
theorem dX12_end_2 : decode cX12_end 2 = .ok (.putfield 138, 3) := by decide +kernel
theorem dX12_end_5 : decode cX12_end 5 = .ok (.iload_n 1, 1) := by decide +kernel
theorem dX12_end_6 : decode cX12_end 6 = .ok (.ifCond .lt 11, 3) := by decide +kernel
theorem dX12_end_9 : decode cX12_end 9 = .ok (.iload_n 1, 1) := by decide +kernel
theorem dX12_end_10 : decode cX12_end 10 = .ok (.aload_n 0, 1) := by decide +kernel
theorem dX12_end_11 : decode cX12_end 11 = .ok (.getfield 178, 3) := by decide +kernel
theorem dX12_end_14 : decode cX12_end 14 = .ok (.if_icmp .le 5, 3) := by decide +kernel
theorem dX12_end_17 : decode cX12_end 17 = .ok (.iconst 0, 1) := by decide +kernel
theorem dX12_end_18 : decode cX12_end 18 = .ok (.ireturn, 1) := by decide +kernel
theorem dX12_end_19 : decode cX12_end 19 = .ok (.aload_n 0, 1) := by decide +kernel
theorem dX12_end_20 : decode cX12_end 20 = .ok (.iload_n 1, 1) := by decide +kernel
theorem dX12_end_21 : decode cX12_end 21 = .ok (.putfield 178, 3) := by decide +kernel
theorem dX12_end_24 : decode cX12_end 24 = .ok (.iconst 1, 1) := by decide +kernel
theorem dX12_end_25 : decode cX12_end 25 = .ok (.ireturn, 1) := by decide +kernel
theorem dX12_feed_0 : decode cX12_feed 0 = .ok (.aload_n 0, 1) := by decide +kernel
theorem dX12_feed_1 : decode cX12_feed 1 = .ok (.iconst 0, 1) := by decide +kernel
theorem dX12_feed_2 : decode cX12_feed 2 = .ok (.putfield 138, 3) := by decide +kernel
theorem dX12_feed_5 : decode cX12_feed 5 = .ok (.aload_n 0, 1) := by decide +kernel
theorem dX12_feed_6 : decode cX12_feed 6 = .ok (.getfield 178, 3) := by decide +kernel
theorem dX12_feed_9 : decode cX12_feed 9 = .ok (.iload_n 1, 1) := by decide +kernel
theorem dX12_feed_10 : decode cX12_feed 10 = .ok (.invokestatic 181, 3) := by decide +kernel
theorem dX12_feed_13 : decode cX12_feed 13 = .ok (.iadd, 1) := by decide +kernel
theorem dX12_feed_14 : decode cX12_feed 14 = .ok (.iload_n 2, 1) := by decide +kernel
theorem dX12_feed_15 : decode cX12_feed 15 = .ok (.invokestatic 181, 3) := by decide +kernel
theorem dX12_feed_18 : decode cX12_feed 18 = .ok (.iadd, 1) := by decide +kernel
theorem dX12_feed_19 : decode cX12_feed 19 = .ok (.iload_n 3, 1) := by decide +kernel
theorem dX12_feed_20 : decode cX12_feed 20 = .ok (.invokestatic 181, 3) := by decide +kernel
theorem dX12_feed_23 : decode cX12_feed 23 = .ok (.iadd, 1) := by decide +kernel
theorem dX12_feed_24 : decode cX12_feed 24 = .ok (.iload 4, 2) := by decide +kernel
theorem dX12_feed_26 : decode cX12_feed 26 = .ok (.invokestatic 181, 3) := by decide +kernel
theorem dX12_feed_29 : decode cX12_feed 29 = .ok (.iadd, 1) := by decide +kernel
theorem dX12_feed_30 : decode cX12_feed 30 = .ok (.iload 5, 2) := by decide +kernel
theorem dX12_feed_32 : decode cX12_feed 32 = .ok (.invokestatic 181, 3) := by decide +kernel
theorem dX12_feed_35 : decode cX12_feed 35 = .ok (.iadd, 1) := by decide +kernel
theorem dX12_feed_36 : decode cX12_feed 36 = .ok (.sipush 160, 3) := by decide +kernel
theorem dX12_feed_39 : decode cX12_feed 39 = .ok (.if_icmp .le 5, 3) := by decide +kernel
theorem dX12_feed_42 : decode cX12_feed 42 = .ok (.iconst (-1), 1) := by decide +kernel
theorem dX12_feed_43 : decode cX12_feed 43 = .ok (.ireturn, 1) := by decide +kernel
theorem dX12_feed_44 : decode cX12_feed 44 = .ok (.aload_n 0, 1) := by decide +kernel
theorem dX12_feed_45 : decode cX12_feed 45 = .ok (.iload_n 1, 1) := by decide +kernel
theorem dX12_feed_46 : decode cX12_feed 46 = .ok (.invokevirtual 185, 3) := by decide +kernel
theorem dX12_feed_49 : decode cX12_feed 49 = .ok (.aload_n 0, 1) := by decide +kernel
theorem dX12_feed_50 : decode cX12_feed 50 = .ok (.iload_n 2, 1) := by decide +kernel
theorem dX12_feed_51 : decode cX12_feed 51 = .ok (.invokevirtual 185, 3) := by decide +kernel
theorem dX12_feed_54 : decode cX12_feed 54 = .ok (.aload_n 0, 1) := by decide +kernel
theorem dX12_feed_55 : decode cX12_feed 55 = .ok (.iload_n 3, 1) := by decide +kernel
theorem dX12_feed_56 : decode cX12_feed 56 = .ok (.invokevirtual 185, 3) := by decide +kernel
theorem dX12_feed_59 : decode cX12_feed 59 = .ok (.aload_n 0, 1) := by decide +kernel
theorem dX12_feed_60 : decode cX12_feed 60 = .ok (.iload 4, 2) := by decide +kernel
theorem dX12_feed_62 : decode cX12_feed 62 = .ok (.invokevirtual 185, 3) := by decide +kernel
theorem dX12_feed_65 : decode cX12_feed 65 = .ok (.aload_n 0, 1) := by decide +kernel
theorem dX12_feed_66 : decode cX12_feed 66 = .ok (.iload 5, 2) := by decide +kernel
theorem dX12_feed_68 : decode cX12_feed 68 = .ok (.invokevirtual 185, 3) := by decide +kernel
theorem dX12_feed_71 : decode cX12_feed 71 = .ok (.aload_n 0, 1) := by decide +kernel
theorem dX12_feed_72 : decode cX12_feed 72 = .ok (.getfield 178, 3) := by decide +kernel
theorem dX12_feed_75 : decode cX12_feed 75 = .ok (.ireturn, 1) := by decide +kernel
theorem dX12_force_0 : decode cX12_force 0 = .ok (.aload_n 0, 1) := by decide +kernel
theorem dX12_force_1 : decode cX12_force 1 = .ok (.iconst 0, 1) := by decide +kernel
theorem dX12_force_2 : decode cX12_force 2 = .ok (.putfield 138, 3) := by decide +kernel
theorem dX12_force_5 : decode cX12_force 5 = .ok (.iload_n 1, 1) := by decide +kernel
theorem dX12_force_6 : decode cX12_force 6 = .ok (.invokestatic 175, 3) := by decide +kernel
theorem dX12_force_9 : decode cX12_force 9 = .ok (.ifCond .eq 20, 3) := by decide +kernel
theorem dX12_force_12 : decode cX12_force 12 = .ok (.aload_n 0, 1) := by decide +kernel
theorem dX12_force_13 : decode cX12_force 13 = .ok (.iload_n 2, 1) := by decide +kernel
theorem dX12_force_14 : decode cX12_force 14 = .ok (.invokevirtual 159, 3) := by decide +kernel
theorem dX12_force_17 : decode cX12_force 17 = .ok (.ifCond .eq 12, 3) := by decide +kernel
theorem dX12_force_20 : decode cX12_force 20 = .ok (.aload_n 0, 1) := by decide +kernel
theorem dX12_force_21 : decode cX12_force 21 = .ok (.iload_n 1, 1) := by decide +kernel
theorem dX12_force_22 : decode cX12_force 22 = .ok (.iload_n 2, 1) := by decide +kernel
theorem dX12_force_23 : decode cX12_force 23 = .ok (.invokevirtual 292, 3) := by decide +kernel
theorem dX12_force_26 : decode cX12_force 26 = .ok (.goto 4, 3) := by decide +kernel
theorem dX12_force_29 : decode cX12_force 29 = .ok (.iconst (-1), 1) := by decide +kernel
theorem dX12_force_30 : decode cX12_force 30 = .ok (.ireturn, 1) := by decide +kernel
theorem dX12_habit_0 : decode cX12_habit 0 = .ok (.aload_n 0, 1) := by decide +kernel
theorem dX12_habit_1 : decode cX12_habit 1 = .ok (.iconst 0, 1) := by decide +kernel
theorem dX12_habit_2 : decode cX12_habit 2 = .ok (.putfield 138, 3) := by decide +kernel
theorem dX12_habit_5 : decode cX12_habit 5 = .ok (.iload_n 1, 1) := by decide +kernel
theorem dX12_habit_6 : decode cX12_habit 6 = .ok (.invokestatic 338, 3) := by decide +kernel
theorem dX12_habit_9 : decode cX12_habit 9 = .ok (.ifCond .eq 11, 3) := by decide +kernel
theorem dX12_habit_12 : decode cX12_habit 12 = .ok (.aload_n 0, 1) := by decide +kernel
theorem dX12_habit_13 : decode cX12_habit 13 = .ok (.iload_n 2, 1) := by decide +kernel
theorem dX12_habit_14 : decode cX12_habit 14 = .ok (.invokevirtual 159, 3) := by decide +kernel
theorem dX12_habit_17 : decode cX12_habit 17 = .ok (.ifCond .ne 7, 3) := by decide +kernel
theorem dX12_habit_20 : decode cX12_habit 20 = .ok (.ldc_w 344, 3) := by decide +kernel
theorem dX12_habit_23 : decode cX12_habit 23 = .ok (.ireturn, 1) := by decide +kernel
theorem dX12_habit_24 : decode cX12_habit 24 = .ok (.iconst 0, 1) := by decide +kernel
theorem dX12_habit_25 : decode cX12_habit 25 = .ok (.istore_n 3, 1) := by decide +kernel
theorem dX12_habit_26 : decode cX12_habit 26 = .ok (.iconst 0, 1) := by decide +kernel
theorem dX12_habit_27 : decode cX12_habit 27 = .ok (.istore 4, 2) := by decide +kernel
theorem dX12_habit_29 : decode cX12_habit 29 = .ok (.iconst 0, 1) := by decide +kernel
theorem dX12_habit_30 : decode cX12_habit 30 = .ok (.istore 5, 2) := by decide +kernel
theorem dX12_habit_32 : decode cX12_habit 32 = .ok (.iload 5, 2) := by decide +kernel
theorem dX12_habit_34 : decode cX12_habit 34 = .ok (.aload_n 0, 1) := by decide +kernel
theorem dX12_habit_35 : decode cX12_habit 35 = .ok (.getfield 152, 3) := by decide +kernel
theorem dX12_habit_38 : decode cX12_habit 38 = .ok (.if_icmp .ge 82, 3) := by decide +kernel
theorem dX12_habit_41 : decode cX12_habit 41 = .ok (.aload_n 0, 1) := by decide +kernel
theorem dX12_habit_42 : decode cX12_habit 42 = .ok (.iload_n 1, 1) := by decide +kernel
theorem dX12_habit_43 : decode cX12_habit 43 = .ok (.iload 5, 2) := by decide +kernel
theorem dX12_habit_45 : decode cX12_habit 45 = .ok (.iload_n 2, 1) := by decide +kernel
theorem dX12_habit_46 : decode cX12_habit 46 = .ok (.invokevirtual 341, 3) := by decide +kernel
theorem dX12_habit_49 : decode cX12_habit 49 = .ok (.istore 6, 2) := by decide +kernel
theorem dX12_habit_51 : decode cX12_habit 51 = .ok (.iconst 0, 1) := by decide +kernel
theorem dX12_habit_52 : decode cX12_habit 52 = .ok (.istore 7, 2) := by decide +kernel
theorem dX12_habit_54 : decode cX12_habit 54 = .ok (.iload 7, 2) := by decide +kernel
theorem dX12_habit_56 : decode cX12_habit 56 = .ok (.bipush 6, 2) := by decide +kernel
theorem dX12_habit_58 : decode cX12_habit 58 = .ok (.if_icmp .ge 56, 3) := by decide +kernel
theorem dX12_habit_61 : decode cX12_habit 61 = .ok (.iload 6, 2) := by decide +kernel
theorem dX12_habit_63 : decode cX12_habit 63 = .ok (.iconst (-1), 1) := by decide +kernel
theorem dX12_habit_64 : decode cX12_habit 64 = .ok (.if_icmp .eq 50, 3) := by decide +kernel
theorem dX12_habit_67 : decode cX12_habit 67 = .ok (.iload 7, 2) := by decide +kernel
theorem dX12_habit_69 : decode cX12_habit 69 = .ok (.iload_n 1, 1) := by decide +kernel
theorem dX12_habit_70 : decode cX12_habit 70 = .ok (.if_icmp .ne 7, 3) := by decide +kernel
theorem dX12_habit_73 : decode cX12_habit 73 = .ok (.iconst (-1), 1) := by decide +kernel
theorem dX12_habit_74 : decode cX12_habit 74 = .ok (.goto 12, 3) := by decide +kernel
theorem dX12_habit_77 : decode cX12_habit 77 = .ok (.aload_n 0, 1) := by decide +kernel
theorem dX12_habit_78 : decode cX12_habit 78 = .ok (.iload 7, 2) := by decide +kernel
theorem dX12_habit_80 : decode cX12_habit 80 = .ok (.iload 5, 2) := by decide +kernel
theorem dX12_habit_82 : decode cX12_habit 82 = .ok (.iload_n 2, 1) := by decide +kernel
theorem dX12_habit_83 : decode cX12_habit 83 = .ok (.invokevirtual 341, 3) := by decide +kernel
theorem dX12_habit_86 : decode cX12_habit 86 = .ok (.istore 8, 2) := by decide +kernel
theorem dX12_habit_88 : decode cX12_habit 88 = .ok (.iload 8, 2) := by decide +kernel
theorem dX12_habit_90 : decode cX12_habit 90 = .ok (.iconst (-1), 1) := by decide +kernel
theorem dX12_habit_91 : decode cX12_habit 91 = .ok (.if_icmp .ne 6, 3) := by decide +kernel
theorem dX12_habit_94 : decode cX12_habit 94 = .ok (.goto 14, 3) := by decide +kernel
theorem dX12_habit_97 : decode cX12_habit 97 = .ok (.iload_n 3, 1) := by decide +kernel
theorem dX12_habit_98 : decode cX12_habit 98 = .ok (.iload 6, 2) := by decide +kernel
theorem dX12_habit_100 : decode cX12_habit 100 = .ok (.iload 8, 2) := by decide +kernel
theorem dX12_habit_102 : decode cX12_habit 102 = .ok (.isub, 1) := by decide +kernel
theorem dX12_habit_103 : decode cX12_habit 103 = .ok (.iadd, 1) := by decide +kernel
theorem dX12_habit_104 : decode cX12_habit 104 = .ok (.istore_n 3, 1) := by decide +kernel
theorem dX12_habit_105 : decode cX12_habit 105 = .ok (.iinc 4 1, 3) := by decide +kernel
theorem dX12_habit_108 : decode cX12_habit 108 = .ok (.iinc 7 1, 3) := by decide +kernel
theorem dX12_habit_111 : decode cX12_habit 111 = .ok (.goto (-57), 3) := by decide +kernel
theorem dX12_habit_114 : decode cX12_habit 114 = .ok (.iinc 5 1, 3) := by decide +kernel
theorem dX12_habit_117 : decode cX12_habit 117 = .ok (.goto (-85), 3) := by decide +kernel
theorem dX12_habit_120 : decode cX12_habit 120 = .ok (.iload 4, 2) := by decide +kernel
theorem dX12_habit_122 : decode cX12_habit 122 = .ok (.ifCond .ne 7, 3) := by decide +kernel
theorem dX12_habit_125 : decode cX12_habit 125 = .ok (.iconst 0, 1) := by decide +kernel
theorem dX12_habit_126 : decode cX12_habit 126 = .ok (.goto 11, 3) := by decide +kernel
theorem dX12_habit_129 : decode cX12_habit 129 = .ok (.sipush 1000, 3) := by decide +kernel
theorem dX12_habit_132 : decode cX12_habit 132 = .ok (.iload_n 3, 1) := by decide +kernel
theorem dX12_habit_133 : decode cX12_habit 133 = .ok (.imul, 1) := by decide +kernel
theorem dX12_habit_134 : decode cX12_habit 134 = .ok (.iload 4, 2) := by decide +kernel
theorem dX12_habit_136 : decode cX12_habit 136 = .ok (.idiv, 1) := by decide +kernel
theorem dX12_habit_137 : decode cX12_habit 137 = .ok (.ireturn, 1) := by decide +kernel
theorem dX12_happen_0 : decode cX12_happen 0 = .ok (.aload_n 0, 1) := by decide +kernel
theorem dX12_happen_1 : decode cX12_happen 1 = .ok (.iconst 0, 1) := by decide +kernel
theorem dX12_happen_2 : decode cX12_happen 2 = .ok (.putfield 138, 3) := by decide +kernel
theorem dX12_happen_5 : decode cX12_happen 5 = .ok (.aload_n 0, 1) := by decide +kernel
theorem dX12_happen_6 : decode cX12_happen 6 = .ok (.getfield 329, 3) := by decide +kernel
theorem dX12_happen_9 : decode cX12_happen 9 = .ok (.bipush 100, 2) := by decide +kernel
theorem dX12_happen_11 : decode cX12_happen 11 = .ok (.if_icmp .eq 27, 3) := by decide +kernel
theorem dX12_happen_14 : decode cX12_happen 14 = .ok (.iload_n 1, 1) := by decide +kernel
theorem dX12_happen_15 : decode cX12_happen 15 = .ok (.iconst 0, 1) := by decide +kernel
theorem dX12_happen_16 : decode cX12_happen 16 = .ok (.bipush 7, 2) := by decide +kernel
theorem dX12_happen_18 : decode cX12_happen 18 = .ok (.invokestatic 145, 3) := by decide +kernel
theorem dX12_happen_21 : decode cX12_happen 21 = .ok (.ifCond .eq 17, 3) := by decide +kernel
theorem dX12_happen_24 : decode cX12_happen 24 = .ok (.iload_n 2, 1) := by decide +kernel
theorem dX12_happen_25 : decode cX12_happen 25 = .ok (.invokestatic 175, 3) := by decide +kernel
theorem dX12_happen_28 : decode cX12_happen 28 = .ok (.ifCond .eq 10, 3) := by decide +kernel
theorem dX12_happen_31 : decode cX12_happen 31 = .ok (.iload_n 3, 1) := by decide +kernel
theorem dX12_happen_32 : decode cX12_happen 32 = .ok (.invokestatic 168, 3) := by decide +kernel
theorem dX12_happen_35 : decode cX12_happen 35 = .ok (.ifCond .ne 5, 3) := by decide +kernel
theorem dX12_happen_38 : decode cX12_happen 38 = .ok (.iconst 0, 1) := by decide +kernel
theorem dX12_happen_39 : decode cX12_happen 39 = .ok (.ireturn, 1) := by decide +kernel
theorem dX12_happen_40 : decode cX12_happen 40 = .ok (.aload_n 0, 1) := by decide +kernel
theorem dX12_happen_41 : decode cX12_happen 41 = .ok (.getfield 74, 3) := by decide +kernel
theorem dX12_happen_44 : decode cX12_happen 44 = .ok (.aload_n 0, 1) := by decide +kernel
theorem dX12_happen_45 : decode cX12_happen 45 = .ok (.getfield 329, 3) := by decide +kernel
theorem dX12_happen_48 : decode cX12_happen 48 = .ok (.iload_n 1, 1) := by decide +kernel
theorem dX12_happen_49 : decode cX12_happen 49 = .ok (.iastore, 1) := by decide +kernel
theorem dX12_happen_50 : decode cX12_happen 50 = .ok (.aload_n 0, 1) := by decide +kernel
theorem dX12_happen_51 : decode cX12_happen 51 = .ok (.getfield 77, 3) := by decide +kernel
theorem dX12_happen_54 : decode cX12_happen 54 = .ok (.aload_n 0, 1) := by decide +kernel
theorem dX12_happen_55 : decode cX12_happen 55 = .ok (.getfield 329, 3) := by decide +kernel
theorem dX12_happen_58 : decode cX12_happen 58 = .ok (.iload_n 2, 1) := by decide +kernel
theorem dX12_happen_59 : decode cX12_happen 59 = .ok (.iastore, 1) := by decide +kernel
theorem dX12_happen_60 : decode cX12_happen 60 = .ok (.aload_n 0, 1) := by decide +kernel
theorem dX12_happen_61 : decode cX12_happen 61 = .ok (.getfield 80, 3) := by decide +kernel
theorem dX12_happen_64 : decode cX12_happen 64 = .ok (.aload_n 0, 1) := by decide +kernel
theorem dX12_happen_65 : decode cX12_happen 65 = .ok (.getfield 329, 3) := by decide +kernel
theorem dX12_happen_68 : decode cX12_happen 68 = .ok (.iload_n 3, 1) := by decide +kernel
theorem dX12_happen_69 : decode cX12_happen 69 = .ok (.iastore, 1) := by decide +kernel
theorem dX12_happen_70 : decode cX12_happen 70 = .ok (.aload_n 0, 1) := by decide +kernel
theorem dX12_happen_71 : decode cX12_happen 71 = .ok (.getfield 86, 3) := by decide +kernel
theorem dX12_happen_74 : decode cX12_happen 74 = .ok (.aload_n 0, 1) := by decide +kernel
theorem dX12_happen_75 : decode cX12_happen 75 = .ok (.getfield 329, 3) := by decide +kernel
theorem dX12_happen_78 : decode cX12_happen 78 = .ok (.iload 4, 2) := by decide +kernel
theorem dX12_happen_80 : decode cX12_happen 80 = .ok (.bastore, 1) := by decide +kernel
theorem dX12_happen_81 : decode cX12_happen 81 = .ok (.aload_n 0, 1) := by decide +kernel
theorem dX12_happen_82 : decode cX12_happen 82 = .ok (.getfield 83, 3) := by decide +kernel
theorem dX12_happen_85 : decode cX12_happen 85 = .ok (.aload_n 0, 1) := by decide +kernel
theorem dX12_happen_86 : decode cX12_happen 86 = .ok (.getfield 329, 3) := by decide +kernel
theorem dX12_happen_89 : decode cX12_happen 89 = .ok (.aload_n 0, 1) := by decide +kernel
theorem dX12_happen_90 : decode cX12_happen 90 = .ok (.getfield 142, 3) := by decide +kernel
theorem dX12_happen_93 : decode cX12_happen 93 = .ok (.iastore, 1) := by decide +kernel
theorem dX12_happen_94 : decode cX12_happen 94 = .ok (.aload_n 0, 1) := by decide +kernel
theorem dX12_happen_95 : decode cX12_happen 95 = .ok (.dup, 1) := by decide +kernel
theorem dX12_happen_96 : decode cX12_happen 96 = .ok (.getfield 329, 3) := by decide +kernel
theorem dX12_happen_99 : decode cX12_happen 99 = .ok (.iconst 1, 1) := by decide +kernel
theorem dX12_happen_100 : decode cX12_happen 100 = .ok (.iadd, 1) := by decide +kernel
theorem dX12_happen_101 : decode cX12_happen 101 = .ok (.putfield 329, 3) := by decide +kernel
theorem dX12_happen_104 : decode cX12_happen 104 = .ok (.iconst 1, 1) := by decide +kernel
theorem dX12_happen_105 : decode cX12_happen 105 = .ok (.ireturn, 1) := by decide +kernel
theorem dX12_hide_0 : decode cX12_hide 0 = .ok (.aload_n 0, 1) := by decide +kernel
theorem dX12_hide_1 : decode cX12_hide 1 = .ok (.iconst 0, 1) := by decide +kernel
theorem dX12_hide_2 : decode cX12_hide 2 = .ok (.putfield 138, 3) := by decide +kernel
theorem dX12_hide_5 : decode cX12_hide 5 = .ok (.iload_n 1, 1) := by decide +kernel
theorem dX12_hide_6 : decode cX12_hide 6 = .ok (.iconst 1, 1) := by decide +kernel
theorem dX12_hide_7 : decode cX12_hide 7 = .ok (.if_icmp .ge 5, 3) := by decide +kernel
theorem dX12_hide_10 : decode cX12_hide 10 = .ok (.iconst (-1), 1) := by decide +kernel
theorem dX12_hide_11 : decode cX12_hide 11 = .ok (.ireturn, 1) := by decide +kernel
theorem dX12_hide_12 : decode cX12_hide 12 = .ok (.iconst (-1), 1) := by decide +kernel
theorem dX12_hide_13 : decode cX12_hide 13 = .ok (.istore_n 2, 1) := by decide +kernel
theorem dX12_hide_14 : decode cX12_hide 14 = .ok (.iconst 0, 1) := by decide +kernel
theorem dX12_hide_15 : decode cX12_hide 15 = .ok (.istore_n 3, 1) := by decide +kernel
theorem dX12_hide_16 : decode cX12_hide 16 = .ok (.iload_n 3, 1) := by decide +kernel
theorem dX12_hide_17 : decode cX12_hide 17 = .ok (.bipush 8, 2) := by decide +kernel
theorem dX12_hide_19 : decode cX12_hide 19 = .ok (.if_icmp .ge 81, 3) := by decide +kernel
theorem dX12_hide_22 : decode cX12_hide 22 = .ok (.iconst 1, 1) := by decide +kernel
theorem dX12_hide_23 : decode cX12_hide 23 = .ok (.istore 4, 2) := by decide +kernel
theorem dX12_hide_25 : decode cX12_hide 25 = .ok (.iconst 0, 1) := by decide +kernel
theorem dX12_hide_26 : decode cX12_hide 26 = .ok (.istore 5, 2) := by decide +kernel
theorem dX12_hide_28 : decode cX12_hide 28 = .ok (.iload 5, 2) := by decide +kernel
theorem dX12_hide_30 : decode cX12_hide 30 = .ok (.aload_n 0, 1) := by decide +kernel
theorem dX12_hide_31 : decode cX12_hide 31 = .ok (.getfield 149, 3) := by decide +kernel
theorem dX12_hide_34 : decode cX12_hide 34 = .ok (.if_icmp .ge 37, 3) := by decide +kernel
theorem dX12_hide_37 : decode cX12_hide 37 = .ok (.iload 4, 2) := by decide +kernel
theorem dX12_hide_39 : decode cX12_hide 39 = .ok (.ifCond .eq 23, 3) := by decide +kernel
theorem dX12_hide_42 : decode cX12_hide 42 = .ok (.aload_n 0, 1) := by decide +kernel
theorem dX12_hide_43 : decode cX12_hide 43 = .ok (.iload 5, 2) := by decide +kernel
theorem dX12_hide_45 : decode cX12_hide 45 = .ok (.bipush 7, 2) := by decide +kernel
theorem dX12_hide_47 : decode cX12_hide 47 = .ok (.iload_n 3, 1) := by decide +kernel
theorem dX12_hide_48 : decode cX12_hide 48 = .ok (.iconst (-1), 1) := by decide +kernel
theorem dX12_hide_49 : decode cX12_hide 49 = .ok (.ixor, 1) := by decide +kernel
theorem dX12_hide_50 : decode cX12_hide 50 = .ok (.iand, 1) := by decide +kernel
theorem dX12_hide_51 : decode cX12_hide 51 = .ok (.invokevirtual 385, 3) := by decide +kernel
theorem dX12_hide_54 : decode cX12_hide 54 = .ok (.iload_n 1, 1) := by decide +kernel
theorem dX12_hide_55 : decode cX12_hide 55 = .ok (.if_icmp .lt 7, 3) := by decide +kernel
theorem dX12_hide_58 : decode cX12_hide 58 = .ok (.iconst 1, 1) := by decide +kernel
theorem dX12_hide_59 : decode cX12_hide 59 = .ok (.goto 4, 3) := by decide +kernel
theorem dX12_hide_62 : decode cX12_hide 62 = .ok (.iconst 0, 1) := by decide +kernel
theorem dX12_hide_63 : decode cX12_hide 63 = .ok (.istore 4, 2) := by decide +kernel
theorem dX12_hide_65 : decode cX12_hide 65 = .ok (.iinc 5 1, 3) := by decide +kernel
theorem dX12_hide_68 : decode cX12_hide 68 = .ok (.goto (-40), 3) := by decide +kernel
theorem dX12_hide_71 : decode cX12_hide 71 = .ok (.iload 4, 2) := by decide +kernel
theorem dX12_hide_73 : decode cX12_hide 73 = .ok (.ifCond .eq 21, 3) := by decide +kernel
theorem dX12_hide_76 : decode cX12_hide 76 = .ok (.iload_n 2, 1) := by decide +kernel
theorem dX12_hide_77 : decode cX12_hide 77 = .ok (.iconst (-1), 1) := by decide +kernel
theorem dX12_hide_78 : decode cX12_hide 78 = .ok (.if_icmp .eq 14, 3) := by decide +kernel
theorem dX12_hide_81 : decode cX12_hide 81 = .ok (.iload_n 3, 1) := by decide +kernel
theorem dX12_hide_82 : decode cX12_hide 82 = .ok (.invokestatic 388, 3) := by decide +kernel
theorem dX12_hide_85 : decode cX12_hide 85 = .ok (.iload_n 2, 1) := by decide +kernel
theorem dX12_hide_86 : decode cX12_hide 86 = .ok (.invokestatic 388, 3) := by decide +kernel
theorem dX12_hide_89 : decode cX12_hide 89 = .ok (.if_icmp .ge 5, 3) := by decide +kernel
theorem dX12_hide_92 : decode cX12_hide 92 = .ok (.iload_n 3, 1) := by decide +kernel
theorem dX12_hide_93 : decode cX12_hide 93 = .ok (.istore_n 2, 1) := by decide +kernel
theorem dX12_hide_94 : decode cX12_hide 94 = .ok (.iinc 3 1, 3) := by decide +kernel
theorem dX12_hide_97 : decode cX12_hide 97 = .ok (.goto (-81), 3) := by decide +kernel
theorem dX12_hide_100 : decode cX12_hide 100 = .ok (.iload_n 2, 1) := by decide +kernel
theorem dX12_hide_101 : decode cX12_hide 101 = .ok (.ireturn, 1) := by decide +kernel
theorem dX12_isDay_0 : decode cX12_isDay 0 = .ok (.iload_n 0, 1) := by decide +kernel
theorem dX12_isDay_1 : decode cX12_isDay 1 = .ok (.iconst 0, 1) := by decide +kernel
theorem dX12_isDay_2 : decode cX12_isDay 2 = .ok (.sipush 1000, 3) := by decide +kernel
theorem dX12_isDay_5 : decode cX12_isDay 5 = .ok (.invokestatic 145, 3) := by decide +kernel
theorem dX12_isDay_8 : decode cX12_isDay 8 = .ok (.ireturn, 1) := by decide +kernel
theorem dX12_isIn_0 : decode cX12_isIn 0 = .ok (.iload_n 0, 1) := by decide +kernel
theorem dX12_isIn_1 : decode cX12_isIn 1 = .ok (.iload_n 1, 1) := by decide +kernel
theorem dX12_isIn_2 : decode cX12_isIn 2 = .ok (.if_icmp .lt 12, 3) := by decide +kernel
theorem dX12_isIn_5 : decode cX12_isIn 5 = .ok (.iload_n 0, 1) := by decide +kernel
theorem dX12_isIn_6 : decode cX12_isIn 6 = .ok (.iload_n 2, 1) := by decide +kernel
theorem dX12_isIn_7 : decode cX12_isIn 7 = .ok (.if_icmp .gt 7, 3) := by decide +kernel
theorem dX12_isIn_10 : decode cX12_isIn 10 = .ok (.iconst 1, 1) := by decide +kernel
theorem dX12_isIn_11 : decode cX12_isIn 11 = .ok (.goto 4, 3) := by decide +kernel
theorem dX12_isIn_14 : decode cX12_isIn 14 = .ok (.iconst 0, 1) := by decide +kernel
theorem dX12_isIn_15 : decode cX12_isIn 15 = .ok (.ireturn, 1) := by decide +kernel
theorem dX12_isKnown_0 : decode cX12_isKnown 0 = .ok (.iload_n 1, 1) := by decide +kernel
theorem dX12_isKnown_1 : decode cX12_isKnown 1 = .ok (.iconst 0, 1) := by decide +kernel
theorem dX12_isKnown_2 : decode cX12_isKnown 2 = .ok (.aload_n 0, 1) := by decide +kernel
theorem dX12_isKnown_3 : decode cX12_isKnown 3 = .ok (.getfield 142, 3) := by decide +kernel
theorem dX12_isKnown_6 : decode cX12_isKnown 6 = .ok (.invokestatic 145, 3) := by decide +kernel
theorem dX12_isKnown_9 : decode cX12_isKnown 9 = .ok (.ireturn, 1) := by decide +kernel
theorem dX12_isLine_0 : decode cX12_isLine 0 = .ok (.iload_n 1, 1) := by decide +kernel
theorem dX12_isLine_1 : decode cX12_isLine 1 = .ok (.ifCond .lt 15, 3) := by decide +kernel
theorem dX12_isLine_4 : decode cX12_isLine 4 = .ok (.iload_n 1, 1) := by decide +kernel
theorem dX12_isLine_5 : decode cX12_isLine 5 = .ok (.aload_n 0, 1) := by decide +kernel
theorem dX12_isLine_6 : decode cX12_isLine 6 = .ok (.getfield 152, 3) := by decide +kernel
theorem dX12_isLine_9 : decode cX12_isLine 9 = .ok (.if_icmp .ge 7, 3) := by decide +kernel
theorem dX12_isLine_12 : decode cX12_isLine 12 = .ok (.iconst 1, 1) := by decide +kernel
theorem dX12_isLine_13 : decode cX12_isLine 13 = .ok (.goto 4, 3) := by decide +kernel
theorem dX12_isLine_16 : decode cX12_isLine 16 = .ok (.iconst 0, 1) := by decide +kernel
theorem dX12_isLine_17 : decode cX12_isLine 17 = .ok (.ireturn, 1) := by decide +kernel
theorem dX12_isLineBy_0 : decode cX12_isLineBy 0 = .ok (.aload_n 0, 1) := by decide +kernel
theorem dX12_isLineBy_1 : decode cX12_isLineBy 1 = .ok (.iload_n 1, 1) := by decide +kernel
theorem dX12_isLineBy_2 : decode cX12_isLineBy 2 = .ok (.invokevirtual 155, 3) := by decide +kernel
theorem dX12_isLineBy_5 : decode cX12_isLineBy 5 = .ok (.ifCond .eq 25, 3) := by decide +kernel
theorem dX12_isLineBy_8 : decode cX12_isLineBy 8 = .ok (.aload_n 0, 1) := by decide +kernel
theorem dX12_isLineBy_9 : decode cX12_isLineBy 9 = .ok (.iload_n 2, 1) := by decide +kernel
theorem dX12_isLineBy_10 : decode cX12_isLineBy 10 = .ok (.invokevirtual 159, 3) := by decide +kernel
theorem dX12_isLineBy_13 : decode cX12_isLineBy 13 = .ok (.ifCond .eq 17, 3) := by decide +kernel
theorem dX12_isLineBy_16 : decode cX12_isLineBy 16 = .ok (.aload_n 0, 1) := by decide +kernel
theorem dX12_isLineBy_17 : decode cX12_isLineBy 17 = .ok (.getfield 46, 3) := by decide +kernel
theorem dX12_isLineBy_20 : decode cX12_isLineBy 20 = .ok (.iload_n 1, 1) := by decide +kernel
theorem dX12_isLineBy_21 : decode cX12_isLineBy 21 = .ok (.iaload, 1) := by decide +kernel
theorem dX12_isLineBy_22 : decode cX12_isLineBy 22 = .ok (.iload_n 2, 1) := by decide +kernel
theorem dX12_isLineBy_23 : decode cX12_isLineBy 23 = .ok (.if_icmp .gt 7, 3) := by decide +kernel
theorem dX12_isLineBy_26 : decode cX12_isLineBy 26 = .ok (.iconst 1, 1) := by decide +kernel
theorem dX12_isLineBy_27 : decode cX12_isLineBy 27 = .ok (.goto 4, 3) := by decide +kernel
theorem dX12_isLineBy_30 : decode cX12_isLineBy 30 = .ok (.iconst 0, 1) := by decide +kernel
theorem dX12_isLineBy_31 : decode cX12_isLineBy 31 = .ok (.ireturn, 1) := by decide +kernel
theorem dX12_isPerson_0 : decode cX12_isPerson 0 = .ok (.iload_n 1, 1) := by decide +kernel
theorem dX12_isPerson_1 : decode cX12_isPerson 1 = .ok (.ifCond .lt 15, 3) := by decide +kernel
theorem dX12_isPerson_4 : decode cX12_isPerson 4 = .ok (.iload_n 1, 1) := by decide +kernel
theorem dX12_isPerson_5 : decode cX12_isPerson 5 = .ok (.aload_n 0, 1) := by decide +kernel
theorem dX12_isPerson_6 : decode cX12_isPerson 6 = .ok (.getfield 149, 3) := by decide +kernel
theorem dX12_isPerson_9 : decode cX12_isPerson 9 = .ok (.if_icmp .ge 7, 3) := by decide +kernel
theorem dX12_isPerson_12 : decode cX12_isPerson 12 = .ok (.iconst 1, 1) := by decide +kernel
theorem dX12_isPerson_13 : decode cX12_isPerson 13 = .ok (.goto 4, 3) := by decide +kernel
theorem dX12_isPerson_16 : decode cX12_isPerson 16 = .ok (.iconst 0, 1) := by decide +kernel
theorem dX12_isPerson_17 : decode cX12_isPerson 17 = .ok (.ireturn, 1) := by decide +kernel
theorem dX12_isReader_0 : decode cX12_isReader 0 = .ok (.iload_n 0, 1) := by decide +kernel
theorem dX12_isReader_1 : decode cX12_isReader 1 = .ok (.iconst 0, 1) := by decide +kernel
theorem dX12_isReader_2 : decode cX12_isReader 2 = .ok (.iconst 5, 1) := by decide +kernel
theorem dX12_isReader_3 : decode cX12_isReader 3 = .ok (.invokestatic 145, 3) := by decide +kernel
theorem dX12_isReader_6 : decode cX12_isReader 6 = .ok (.ireturn, 1) := by decide +kernel
theorem dX12_isSort_0 : decode cX12_isSort 0 = .ok (.iload_n 0, 1) := by decide +kernel
theorem dX12_isSort_1 : decode cX12_isSort 1 = .ok (.iconst 0, 1) := by decide +kernel
theorem dX12_isSort_2 : decode cX12_isSort 2 = .ok (.bipush 9, 2) := by decide +kernel
theorem dX12_isSort_4 : decode cX12_isSort 4 = .ok (.invokestatic 145, 3) := by decide +kernel
theorem dX12_isSort_7 : decode cX12_isSort 7 = .ok (.ireturn, 1) := by decide +kernel
theorem dX12_isStopped_0 : decode cX12_isStopped 0 = .ok (.aload_n 0, 1) := by decide +kernel
theorem dX12_isStopped_1 : decode cX12_isStopped 1 = .ok (.iload_n 1, 1) := by decide +kernel
theorem dX12_isStopped_2 : decode cX12_isStopped 2 = .ok (.iload_n 2, 1) := by decide +kernel
theorem dX12_isStopped_3 : decode cX12_isStopped 3 = .ok (.invokevirtual 171, 3) := by decide +kernel
theorem dX12_isStopped_6 : decode cX12_isStopped 6 = .ok (.istore_n 3, 1) := by decide +kernel
theorem dX12_isStopped_7 : decode cX12_isStopped 7 = .ok (.iload_n 3, 1) := by decide +kernel
theorem dX12_isStopped_8 : decode cX12_isStopped 8 = .ok (.iconst (-1), 1) := by decide +kernel
theorem dX12_isStopped_9 : decode cX12_isStopped 9 = .ok (.if_icmp .eq 12, 3) := by decide +kernel
theorem dX12_isStopped_12 : decode cX12_isStopped 12 = .ok (.iload_n 3, 1) := by decide +kernel
theorem dX12_isStopped_13 : decode cX12_isStopped 13 = .ok (.iload_n 2, 1) := by decide +kernel
theorem dX12_isStopped_14 : decode cX12_isStopped 14 = .ok (.if_icmp .gt 7, 3) := by decide +kernel
theorem dX12_isStopped_17 : decode cX12_isStopped 17 = .ok (.iconst 1, 1) := by decide +kernel
theorem dX12_isStopped_18 : decode cX12_isStopped 18 = .ok (.goto 4, 3) := by decide +kernel
theorem dX12_isStopped_21 : decode cX12_isStopped 21 = .ok (.iconst 0, 1) := by decide +kernel
theorem dX12_isStopped_22 : decode cX12_isStopped 22 = .ok (.ireturn, 1) := by decide +kernel
theorem dX12_judge_0 : decode cX12_judge 0 = .ok (.aload_n 0, 1) := by decide +kernel
theorem dX12_judge_1 : decode cX12_judge 1 = .ok (.iconst 0, 1) := by decide +kernel
theorem dX12_judge_2 : decode cX12_judge 2 = .ok (.putfield 138, 3) := by decide +kernel
theorem dX12_judge_5 : decode cX12_judge 5 = .ok (.iload_n 1, 1) := by decide +kernel
theorem dX12_judge_6 : decode cX12_judge 6 = .ok (.ifCond .lt 24, 3) := by decide +kernel
theorem dX12_judge_9 : decode cX12_judge 9 = .ok (.iload_n 1, 1) := by decide +kernel
theorem dX12_judge_10 : decode cX12_judge 10 = .ok (.iconst 1, 1) := by decide +kernel
theorem dX12_judge_11 : decode cX12_judge 11 = .ok (.aload_n 0, 1) := by decide +kernel
theorem dX12_judge_12 : decode cX12_judge 12 = .ok (.getfield 393, 3) := by decide +kernel
theorem dX12_judge_15 : decode cX12_judge 15 = .ok (.ishl, 1) := by decide +kernel
theorem dX12_judge_16 : decode cX12_judge 16 = .ok (.if_icmp .ge 14, 3) := by decide +kernel
theorem dX12_judge_19 : decode cX12_judge 19 = .ok (.iload_n 2, 1) := by decide +kernel
theorem dX12_judge_20 : decode cX12_judge 20 = .ok (.iconst 0, 1) := by decide +kernel
theorem dX12_judge_21 : decode cX12_judge 21 = .ok (.sipush 400, 3) := by decide +kernel
theorem dX12_judge_24 : decode cX12_judge 24 = .ok (.invokestatic 145, 3) := by decide +kernel
theorem dX12_judge_27 : decode cX12_judge 27 = .ok (.ifCond .ne 6, 3) := by decide +kernel
theorem dX12_judge_30 : decode cX12_judge 30 = .ok (.bipush (-2), 2) := by decide +kernel
theorem dX12_judge_32 : decode cX12_judge 32 = .ok (.ireturn, 1) := by decide +kernel
theorem dX12_judge_33 : decode cX12_judge 33 = .ok (.aload_n 0, 1) := by decide +kernel
theorem dX12_judge_34 : decode cX12_judge 34 = .ok (.iload_n 1, 1) := by decide +kernel
theorem dX12_judge_35 : decode cX12_judge 35 = .ok (.invokevirtual 396, 3) := by decide +kernel
theorem dX12_judge_38 : decode cX12_judge 38 = .ok (.iload_n 2, 1) := by decide +kernel
theorem dX12_judge_39 : decode cX12_judge 39 = .ok (.if_icmp .le 7, 3) := by decide +kernel
theorem dX12_judge_42 : decode cX12_judge 42 = .ok (.iconst (-1), 1) := by decide +kernel
theorem dX12_judge_43 : decode cX12_judge 43 = .ok (.goto 8, 3) := by decide +kernel
theorem dX12_judge_46 : decode cX12_judge 46 = .ok (.aload_n 0, 1) := by decide +kernel
theorem dX12_judge_47 : decode cX12_judge 47 = .ok (.iload_n 1, 1) := by decide +kernel
theorem dX12_judge_48 : decode cX12_judge 48 = .ok (.invokevirtual 399, 3) := by decide +kernel
theorem dX12_judge_51 : decode cX12_judge 51 = .ok (.ireturn, 1) := by decide +kernel
theorem dX12_land_0 : decode cX12_land 0 = .ok (.aload_n 0, 1) := by decide +kernel
theorem dX12_land_1 : decode cX12_land 1 = .ok (.iconst 0, 1) := by decide +kernel
theorem dX12_land_2 : decode cX12_land 2 = .ok (.putfield 138, 3) := by decide +kernel
theorem dX12_land_5 : decode cX12_land 5 = .ok (.iload_n 1, 1) := by decide +kernel
theorem dX12_land_6 : decode cX12_land 6 = .ok (.iconst 0, 1) := by decide +kernel
theorem dX12_land_7 : decode cX12_land 7 = .ok (.bipush 7, 2) := by decide +kernel
theorem dX12_land_9 : decode cX12_land 9 = .ok (.invokestatic 145, 3) := by decide +kernel
theorem dX12_land_12 : decode cX12_land 12 = .ok (.ifCond .eq 23, 3) := by decide +kernel
theorem dX12_land_15 : decode cX12_land 15 = .ok (.iload_n 2, 1) := by decide +kernel
theorem dX12_land_16 : decode cX12_land 16 = .ok (.iconst 0, 1) := by decide +kernel
theorem dX12_land_17 : decode cX12_land 17 = .ok (.iconst 3, 1) := by decide +kernel
theorem dX12_land_18 : decode cX12_land 18 = .ok (.invokestatic 145, 3) := by decide +kernel
theorem dX12_land_21 : decode cX12_land 21 = .ok (.ifCond .eq 14, 3) := by decide +kernel
theorem dX12_land_24 : decode cX12_land 24 = .ok (.iload_n 3, 1) := by decide +kernel
theorem dX12_land_25 : decode cX12_land 25 = .ok (.iconst 0, 1) := by decide +kernel
theorem dX12_land_26 : decode cX12_land 26 = .ok (.sipush 9999, 3) := by decide +kernel
theorem dX12_land_29 : decode cX12_land 29 = .ok (.invokestatic 145, 3) := by decide +kernel
theorem dX12_land_32 : decode cX12_land 32 = .ok (.ifCond .ne 5, 3) := by decide +kernel
theorem dX12_land_35 : decode cX12_land 35 = .ok (.iconst 0, 1) := by decide +kernel
theorem dX12_land_36 : decode cX12_land 36 = .ok (.ireturn, 1) := by decide +kernel
theorem dX12_land_37 : decode cX12_land 37 = .ok (.aload_n 0, 1) := by decide +kernel
theorem dX12_land_38 : decode cX12_land 38 = .ok (.getfield 105, 3) := by decide +kernel
theorem dX12_land_41 : decode cX12_land 41 = .ok (.iconst 4, 1) := by decide +kernel
theorem dX12_land_42 : decode cX12_land 42 = .ok (.iload_n 1, 1) := by decide +kernel
theorem dX12_land_43 : decode cX12_land 43 = .ok (.imul, 1) := by decide +kernel
theorem dX12_land_44 : decode cX12_land 44 = .ok (.iload_n 2, 1) := by decide +kernel
theorem dX12_land_45 : decode cX12_land 45 = .ok (.iadd, 1) := by decide +kernel
theorem dX12_land_46 : decode cX12_land 46 = .ok (.iload_n 3, 1) := by decide +kernel
theorem dX12_land_47 : decode cX12_land 47 = .ok (.iastore, 1) := by decide +kernel
theorem dX12_land_48 : decode cX12_land 48 = .ok (.iconst 1, 1) := by decide +kernel
theorem dX12_land_49 : decode cX12_land 49 = .ok (.ireturn, 1) := by decide +kernel
theorem dX12_last_0 : decode cX12_last 0 = .ok (.aload_n 0, 1) := by decide +kernel
theorem dX12_last_1 : decode cX12_last 1 = .ok (.iconst 0, 1) := by decide +kernel
theorem dX12_last_2 : decode cX12_last 2 = .ok (.putfield 138, 3) := by decide +kernel
theorem dX12_last_5 : decode cX12_last 5 = .ok (.aload_n 0, 1) := by decide +kernel
theorem dX12_last_6 : decode cX12_last 6 = .ok (.iload_n 1, 1) := by decide +kernel
theorem dX12_last_7 : decode cX12_last 7 = .ok (.invokevirtual 165, 3) := by decide +kernel
theorem dX12_last_10 : decode cX12_last 10 = .ok (.ifCond .eq 20, 3) := by decide +kernel
theorem dX12_last_13 : decode cX12_last 13 = .ok (.aload_n 0, 1) := by decide +kernel
theorem dX12_last_14 : decode cX12_last 14 = .ok (.iload_n 2, 1) := by decide +kernel
theorem dX12_last_15 : decode cX12_last 15 = .ok (.invokevirtual 159, 3) := by decide +kernel
theorem dX12_last_18 : decode cX12_last 18 = .ok (.ifCond .eq 12, 3) := by decide +kernel
theorem dX12_last_21 : decode cX12_last 21 = .ok (.aload_n 0, 1) := by decide +kernel
theorem dX12_last_22 : decode cX12_last 22 = .ok (.iload_n 1, 1) := by decide +kernel
theorem dX12_last_23 : decode cX12_last 23 = .ok (.iload_n 2, 1) := by decide +kernel
theorem dX12_last_24 : decode cX12_last 24 = .ok (.invokevirtual 363, 3) := by decide +kernel
theorem dX12_last_27 : decode cX12_last 27 = .ok (.goto 4, 3) := by decide +kernel
theorem dX12_last_30 : decode cX12_last 30 = .ok (.iconst (-1), 1) := by decide +kernel
theorem dX12_last_31 : decode cX12_last 31 = .ok (.ireturn, 1) := by decide +kernel
theorem dX12_lastOf_0 : decode cX12_lastOf 0 = .ok (.iconst (-1), 1) := by decide +kernel
theorem dX12_lastOf_1 : decode cX12_lastOf 1 = .ok (.istore_n 3, 1) := by decide +kernel
theorem dX12_lastOf_2 : decode cX12_lastOf 2 = .ok (.iconst 0, 1) := by decide +kernel
theorem dX12_lastOf_3 : decode cX12_lastOf 3 = .ok (.istore 4, 2) := by decide +kernel
theorem dX12_lastOf_5 : decode cX12_lastOf 5 = .ok (.iload 4, 2) := by decide +kernel
theorem dX12_lastOf_7 : decode cX12_lastOf 7 = .ok (.aload_n 0, 1) := by decide +kernel
theorem dX12_lastOf_8 : decode cX12_lastOf 8 = .ok (.getfield 152, 3) := by decide +kernel
theorem dX12_lastOf_11 : decode cX12_lastOf 11 = .ok (.if_icmp .ge 55, 3) := by decide +kernel
theorem dX12_lastOf_14 : decode cX12_lastOf 14 = .ok (.aload_n 0, 1) := by decide +kernel
theorem dX12_lastOf_15 : decode cX12_lastOf 15 = .ok (.getfield 28, 3) := by decide +kernel
theorem dX12_lastOf_18 : decode cX12_lastOf 18 = .ok (.iload 4, 2) := by decide +kernel
theorem dX12_lastOf_20 : decode cX12_lastOf 20 = .ok (.iaload, 1) := by decide +kernel
theorem dX12_lastOf_21 : decode cX12_lastOf 21 = .ok (.iload_n 1, 1) := by decide +kernel
theorem dX12_lastOf_22 : decode cX12_lastOf 22 = .ok (.if_icmp .ne 38, 3) := by decide +kernel
theorem dX12_lastOf_25 : decode cX12_lastOf 25 = .ok (.aload_n 0, 1) := by decide +kernel
theorem dX12_lastOf_26 : decode cX12_lastOf 26 = .ok (.getfield 46, 3) := by decide +kernel
theorem dX12_lastOf_29 : decode cX12_lastOf 29 = .ok (.iload 4, 2) := by decide +kernel
theorem dX12_lastOf_31 : decode cX12_lastOf 31 = .ok (.iaload, 1) := by decide +kernel
theorem dX12_lastOf_32 : decode cX12_lastOf 32 = .ok (.iload_n 2, 1) := by decide +kernel
theorem dX12_lastOf_33 : decode cX12_lastOf 33 = .ok (.if_icmp .gt 27, 3) := by decide +kernel
theorem dX12_lastOf_36 : decode cX12_lastOf 36 = .ok (.iload_n 3, 1) := by decide +kernel
theorem dX12_lastOf_37 : decode cX12_lastOf 37 = .ok (.iconst (-1), 1) := by decide +kernel
theorem dX12_lastOf_38 : decode cX12_lastOf 38 = .ok (.if_icmp .eq 19, 3) := by decide +kernel
theorem dX12_lastOf_41 : decode cX12_lastOf 41 = .ok (.aload_n 0, 1) := by decide +kernel
theorem dX12_lastOf_42 : decode cX12_lastOf 42 = .ok (.getfield 31, 3) := by decide +kernel
theorem dX12_lastOf_45 : decode cX12_lastOf 45 = .ok (.iload 4, 2) := by decide +kernel
theorem dX12_lastOf_47 : decode cX12_lastOf 47 = .ok (.iaload, 1) := by decide +kernel
theorem dX12_lastOf_48 : decode cX12_lastOf 48 = .ok (.aload_n 0, 1) := by decide +kernel
theorem dX12_lastOf_49 : decode cX12_lastOf 49 = .ok (.getfield 31, 3) := by decide +kernel
theorem dX12_lastOf_52 : decode cX12_lastOf 52 = .ok (.iload_n 3, 1) := by decide +kernel
theorem dX12_lastOf_53 : decode cX12_lastOf 53 = .ok (.iaload, 1) := by decide +kernel
theorem dX12_lastOf_54 : decode cX12_lastOf 54 = .ok (.if_icmp .lt 6, 3) := by decide +kernel
theorem dX12_lastOf_57 : decode cX12_lastOf 57 = .ok (.iload 4, 2) := by decide +kernel
theorem dX12_lastOf_59 : decode cX12_lastOf 59 = .ok (.istore_n 3, 1) := by decide +kernel
theorem dX12_lastOf_60 : decode cX12_lastOf 60 = .ok (.iinc 4 1, 3) := by decide +kernel
theorem dX12_lastOf_63 : decode cX12_lastOf 63 = .ok (.goto (-58), 3) := by decide +kernel
theorem dX12_lastOf_66 : decode cX12_lastOf 66 = .ok (.iload_n 3, 1) := by decide +kernel
theorem dX12_lastOf_67 : decode cX12_lastOf 67 = .ok (.ireturn, 1) := by decide +kernel
theorem dX12_lean_0 : decode cX12_lean 0 = .ok (.aload_n 0, 1) := by decide +kernel
theorem dX12_lean_1 : decode cX12_lean 1 = .ok (.iconst 0, 1) := by decide +kernel
theorem dX12_lean_2 : decode cX12_lean 2 = .ok (.putfield 138, 3) := by decide +kernel
theorem dX12_lean_5 : decode cX12_lean 5 = .ok (.iload_n 1, 1) := by decide +kernel
theorem dX12_lean_6 : decode cX12_lean 6 = .ok (.invokestatic 168, 3) := by decide +kernel
theorem dX12_lean_9 : decode cX12_lean 9 = .ok (.ifCond .eq 11, 3) := by decide +kernel
theorem dX12_lean_12 : decode cX12_lean 12 = .ok (.aload_n 0, 1) := by decide +kernel
theorem dX12_lean_13 : decode cX12_lean 13 = .ok (.iload_n 2, 1) := by decide +kernel
theorem dX12_lean_14 : decode cX12_lean 14 = .ok (.invokevirtual 159, 3) := by decide +kernel
theorem dX12_lean_17 : decode cX12_lean 17 = .ok (.ifCond .ne 7, 3) := by decide +kernel
theorem dX12_lean_20 : decode cX12_lean 20 = .ok (.ldc_w 344, 3) := by decide +kernel
theorem dX12_lean_23 : decode cX12_lean 23 = .ok (.ireturn, 1) := by decide +kernel
theorem dX12_lean_24 : decode cX12_lean 24 = .ok (.iconst 0, 1) := by decide +kernel
theorem dX12_lean_25 : decode cX12_lean 25 = .ok (.istore_n 3, 1) := by decide +kernel
theorem dX12_lean_26 : decode cX12_lean 26 = .ok (.iconst 0, 1) := by decide +kernel
theorem dX12_lean_27 : decode cX12_lean 27 = .ok (.istore 4, 2) := by decide +kernel
theorem dX12_lean_29 : decode cX12_lean 29 = .ok (.iconst 0, 1) := by decide +kernel
theorem dX12_lean_30 : decode cX12_lean 30 = .ok (.istore 5, 2) := by decide +kernel
theorem dX12_lean_32 : decode cX12_lean 32 = .ok (.iconst 0, 1) := by decide +kernel
theorem dX12_lean_33 : decode cX12_lean 33 = .ok (.istore 6, 2) := by decide +kernel
theorem dX12_lean_35 : decode cX12_lean 35 = .ok (.iconst 0, 1) := by decide +kernel
theorem dX12_lean_36 : decode cX12_lean 36 = .ok (.istore 7, 2) := by decide +kernel
theorem dX12_lean_38 : decode cX12_lean 38 = .ok (.iload 7, 2) := by decide +kernel
theorem dX12_lean_40 : decode cX12_lean 40 = .ok (.aload_n 0, 1) := by decide +kernel
theorem dX12_lean_41 : decode cX12_lean 41 = .ok (.getfield 149, 3) := by decide +kernel
theorem dX12_lean_44 : decode cX12_lean 44 = .ok (.if_icmp .ge 78, 3) := by decide +kernel
theorem dX12_lean_47 : decode cX12_lean 47 = .ok (.aload_n 0, 1) := by decide +kernel
theorem dX12_lean_48 : decode cX12_lean 48 = .ok (.iload 7, 2) := by decide +kernel
theorem dX12_lean_50 : decode cX12_lean 50 = .ok (.iload_n 2, 1) := by decide +kernel
theorem dX12_lean_51 : decode cX12_lean 51 = .ok (.invokevirtual 363, 3) := by decide +kernel
theorem dX12_lean_54 : decode cX12_lean 54 = .ok (.istore 8, 2) := by decide +kernel
theorem dX12_lean_56 : decode cX12_lean 56 = .ok (.iload 8, 2) := by decide +kernel
theorem dX12_lean_58 : decode cX12_lean 58 = .ok (.iconst (-1), 1) := by decide +kernel
theorem dX12_lean_59 : decode cX12_lean 59 = .ok (.if_icmp .ne 6, 3) := by decide +kernel
theorem dX12_lean_62 : decode cX12_lean 62 = .ok (.goto 54, 3) := by decide +kernel
theorem dX12_lean_65 : decode cX12_lean 65 = .ok (.aload_n 0, 1) := by decide +kernel
theorem dX12_lean_66 : decode cX12_lean 66 = .ok (.getfield 34, 3) := by decide +kernel
theorem dX12_lean_69 : decode cX12_lean 69 = .ok (.iload 8, 2) := by decide +kernel
theorem dX12_lean_71 : decode cX12_lean 71 = .ok (.iaload, 1) := by decide +kernel
theorem dX12_lean_72 : decode cX12_lean 72 = .ok (.iload_n 1, 1) := by decide +kernel
theorem dX12_lean_73 : decode cX12_lean 73 = .ok (.if_icmp .ne 7, 3) := by decide +kernel
theorem dX12_lean_76 : decode cX12_lean 76 = .ok (.iconst 1, 1) := by decide +kernel
theorem dX12_lean_77 : decode cX12_lean 77 = .ok (.goto 4, 3) := by decide +kernel
theorem dX12_lean_80 : decode cX12_lean 80 = .ok (.iconst 0, 1) := by decide +kernel
theorem dX12_lean_81 : decode cX12_lean 81 = .ok (.istore 9, 2) := by decide +kernel
theorem dX12_lean_83 : decode cX12_lean 83 = .ok (.aload_n 0, 1) := by decide +kernel
theorem dX12_lean_84 : decode cX12_lean 84 = .ok (.iload 7, 2) := by decide +kernel
theorem dX12_lean_86 : decode cX12_lean 86 = .ok (.iload_n 2, 1) := by decide +kernel
theorem dX12_lean_87 : decode cX12_lean 87 = .ok (.invokevirtual 366, 3) := by decide +kernel
theorem dX12_lean_90 : decode cX12_lean 90 = .ok (.ifCond .eq 16, 3) := by decide +kernel
theorem dX12_lean_93 : decode cX12_lean 93 = .ok (.iinc 3 1, 3) := by decide +kernel
theorem dX12_lean_96 : decode cX12_lean 96 = .ok (.iload 4, 2) := by decide +kernel
theorem dX12_lean_98 : decode cX12_lean 98 = .ok (.iload 9, 2) := by decide +kernel
theorem dX12_lean_100 : decode cX12_lean 100 = .ok (.iadd, 1) := by decide +kernel
theorem dX12_lean_101 : decode cX12_lean 101 = .ok (.istore 4, 2) := by decide +kernel
theorem dX12_lean_103 : decode cX12_lean 103 = .ok (.goto 13, 3) := by decide +kernel
theorem dX12_lean_106 : decode cX12_lean 106 = .ok (.iinc 5 1, 3) := by decide +kernel
theorem dX12_lean_109 : decode cX12_lean 109 = .ok (.iload 6, 2) := by decide +kernel
theorem dX12_lean_111 : decode cX12_lean 111 = .ok (.iload 9, 2) := by decide +kernel
theorem dX12_lean_113 : decode cX12_lean 113 = .ok (.iadd, 1) := by decide +kernel
theorem dX12_lean_114 : decode cX12_lean 114 = .ok (.istore 6, 2) := by decide +kernel
theorem dX12_lean_116 : decode cX12_lean 116 = .ok (.iinc 7 1, 3) := by decide +kernel
theorem dX12_lean_119 : decode cX12_lean 119 = .ok (.goto (-81), 3) := by decide +kernel
theorem dX12_lean_122 : decode cX12_lean 122 = .ok (.iload_n 3, 1) := by decide +kernel
theorem dX12_lean_123 : decode cX12_lean 123 = .ok (.ifCond .eq 8, 3) := by decide +kernel
theorem dX12_lean_126 : decode cX12_lean 126 = .ok (.iload 5, 2) := by decide +kernel
theorem dX12_lean_128 : decode cX12_lean 128 = .ok (.ifCond .ne 9, 3) := by decide +kernel
theorem dX12_lean_131 : decode cX12_lean 131 = .ok (.ldc_w 344, 3) := by decide +kernel
theorem dX12_lean_134 : decode cX12_lean 134 = .ok (.goto 21, 3) := by decide +kernel
theorem dX12_lean_137 : decode cX12_lean 137 = .ok (.sipush 1000, 3) := by decide +kernel
theorem dX12_lean_140 : decode cX12_lean 140 = .ok (.iload 4, 2) := by decide +kernel
theorem dX12_lean_142 : decode cX12_lean 142 = .ok (.imul, 1) := by decide +kernel
theorem dX12_lean_143 : decode cX12_lean 143 = .ok (.iload_n 3, 1) := by decide +kernel
theorem dX12_lean_144 : decode cX12_lean 144 = .ok (.idiv, 1) := by decide +kernel
theorem dX12_lean_145 : decode cX12_lean 145 = .ok (.sipush 1000, 3) := by decide +kernel
theorem dX12_lean_148 : decode cX12_lean 148 = .ok (.iload 6, 2) := by decide +kernel
theorem dX12_lean_150 : decode cX12_lean 150 = .ok (.imul, 1) := by decide +kernel
theorem dX12_lean_151 : decode cX12_lean 151 = .ok (.iload 5, 2) := by decide +kernel
theorem dX12_lean_153 : decode cX12_lean 153 = .ok (.idiv, 1) := by decide +kernel
theorem dX12_lean_154 : decode cX12_lean 154 = .ok (.isub, 1) := by decide +kernel
theorem dX12_lean_155 : decode cX12_lean 155 = .ok (.ireturn, 1) := by decide +kernel
theorem dX12_line_0 : decode cX12_line 0 = .ok (.aload_n 0, 1) := by decide +kernel
theorem dX12_line_1 : decode cX12_line 1 = .ok (.iconst 0, 1) := by decide +kernel
theorem dX12_line_2 : decode cX12_line 2 = .ok (.putfield 138, 3) := by decide +kernel
theorem dX12_line_5 : decode cX12_line 5 = .ok (.aload_n 0, 1) := by decide +kernel
theorem dX12_line_6 : decode cX12_line 6 = .ok (.getfield 152, 3) := by decide +kernel
theorem dX12_line_9 : decode cX12_line 9 = .ok (.sipush 200, 3) := by decide +kernel
theorem dX12_line_12 : decode cX12_line 12 = .ok (.if_icmp .eq 53, 3) := by decide +kernel
theorem dX12_line_15 : decode cX12_line 15 = .ok (.aload_n 0, 1) := by decide +kernel
theorem dX12_line_16 : decode cX12_line 16 = .ok (.iload_n 1, 1) := by decide +kernel
theorem dX12_line_17 : decode cX12_line 17 = .ok (.invokevirtual 165, 3) := by decide +kernel
theorem dX12_line_20 : decode cX12_line 20 = .ok (.ifCond .eq 45, 3) := by decide +kernel
theorem dX12_line_23 : decode cX12_line 23 = .ok (.iload_n 2, 1) := by decide +kernel
theorem dX12_line_24 : decode cX12_line 24 = .ok (.iconst 0, 1) := by decide +kernel
theorem dX12_line_25 : decode cX12_line 25 = .ok (.aload_n 0, 1) := by decide +kernel
theorem dX12_line_26 : decode cX12_line 26 = .ok (.getfield 142, 3) := by decide +kernel
theorem dX12_line_29 : decode cX12_line 29 = .ok (.invokestatic 145, 3) := by decide +kernel
theorem dX12_line_32 : decode cX12_line 32 = .ok (.ifCond .eq 33, 3) := by decide +kernel
theorem dX12_line_35 : decode cX12_line 35 = .ok (.iload_n 3, 1) := by decide +kernel
theorem dX12_line_36 : decode cX12_line 36 = .ok (.invokestatic 168, 3) := by decide +kernel
theorem dX12_line_39 : decode cX12_line 39 = .ok (.ifCond .eq 26, 3) := by decide +kernel
theorem dX12_line_42 : decode cX12_line 42 = .ok (.iload 4, 2) := by decide +kernel
theorem dX12_line_44 : decode cX12_line 44 = .ok (.bipush (-9), 2) := by decide +kernel
theorem dX12_line_46 : decode cX12_line 46 = .ok (.bipush 9, 2) := by decide +kernel
theorem dX12_line_48 : decode cX12_line 48 = .ok (.invokestatic 145, 3) := by decide +kernel
theorem dX12_line_51 : decode cX12_line 51 = .ok (.ifCond .eq 14, 3) := by decide +kernel
theorem dX12_line_54 : decode cX12_line 54 = .ok (.iload 5, 2) := by decide +kernel
theorem dX12_line_56 : decode cX12_line 56 = .ok (.iconst (-1), 1) := by decide +kernel
theorem dX12_line_57 : decode cX12_line 57 = .ok (.bipush 29, 2) := by decide +kernel
theorem dX12_line_59 : decode cX12_line 59 = .ok (.invokestatic 145, 3) := by decide +kernel
theorem dX12_line_62 : decode cX12_line 62 = .ok (.ifCond .ne 5, 3) := by decide +kernel
theorem dX12_line_65 : decode cX12_line 65 = .ok (.iconst (-1), 1) := by decide +kernel
theorem dX12_line_66 : decode cX12_line 66 = .ok (.ireturn, 1) := by decide +kernel
theorem dX12_line_67 : decode cX12_line 67 = .ok (.iload 6, 2) := by decide +kernel
theorem dX12_line_69 : decode cX12_line 69 = .ok (.iconst (-1), 1) := by decide +kernel
theorem dX12_line_70 : decode cX12_line 70 = .ok (.if_icmp .eq 26, 3) := by decide +kernel
theorem dX12_line_73 : decode cX12_line 73 = .ok (.aload_n 0, 1) := by decide +kernel
theorem dX12_line_74 : decode cX12_line 74 = .ok (.iload 6, 2) := by decide +kernel
theorem dX12_line_76 : decode cX12_line 76 = .ok (.invokevirtual 165, 3) := by decide +kernel
theorem dX12_line_79 : decode cX12_line 79 = .ok (.ifCond .eq 15, 3) := by decide +kernel
theorem dX12_line_82 : decode cX12_line 82 = .ok (.iload 6, 2) := by decide +kernel
theorem dX12_line_84 : decode cX12_line 84 = .ok (.iload_n 1, 1) := by decide +kernel
theorem dX12_line_85 : decode cX12_line 85 = .ok (.if_icmp .eq 9, 3) := by decide +kernel
theorem dX12_line_88 : decode cX12_line 88 = .ok (.iload 5, 2) := by decide +kernel
theorem dX12_line_90 : decode cX12_line 90 = .ok (.iconst (-1), 1) := by decide +kernel
theorem dX12_line_91 : decode cX12_line 91 = .ok (.if_icmp .ne 5, 3) := by decide +kernel
theorem dX12_line_94 : decode cX12_line 94 = .ok (.iconst (-1), 1) := by decide +kernel
theorem dX12_line_95 : decode cX12_line 95 = .ok (.ireturn, 1) := by decide +kernel
theorem dX12_line_96 : decode cX12_line 96 = .ok (.aload_n 0, 1) := by decide +kernel
theorem dX12_line_97 : decode cX12_line 97 = .ok (.iload_n 1, 1) := by decide +kernel
theorem dX12_line_98 : decode cX12_line 98 = .ok (.aload_n 0, 1) := by decide +kernel
theorem dX12_line_99 : decode cX12_line 99 = .ok (.getfield 142, 3) := by decide +kernel
theorem dX12_line_102 : decode cX12_line 102 = .ok (.invokevirtual 171, 3) := by decide +kernel
theorem dX12_line_105 : decode cX12_line 105 = .ok (.istore 7, 2) := by decide +kernel
theorem dX12_line_107 : decode cX12_line 107 = .ok (.iload 7, 2) := by decide +kernel
theorem dX12_line_109 : decode cX12_line 109 = .ok (.iconst (-1), 1) := by decide +kernel
theorem dX12_line_110 : decode cX12_line 110 = .ok (.if_icmp .eq 11, 3) := by decide +kernel
theorem dX12_line_113 : decode cX12_line 113 = .ok (.iload 7, 2) := by decide +kernel
theorem dX12_line_115 : decode cX12_line 115 = .ok (.iload_n 2, 1) := by decide +kernel
theorem dX12_line_116 : decode cX12_line 116 = .ok (.if_icmp .gt 5, 3) := by decide +kernel
theorem dX12_line_119 : decode cX12_line 119 = .ok (.iconst (-1), 1) := by decide +kernel
theorem dX12_line_120 : decode cX12_line 120 = .ok (.ireturn, 1) := by decide +kernel
theorem dX12_line_121 : decode cX12_line 121 = .ok (.aload_n 0, 1) := by decide +kernel
theorem dX12_line_122 : decode cX12_line 122 = .ok (.getfield 28, 3) := by decide +kernel
theorem dX12_line_125 : decode cX12_line 125 = .ok (.aload_n 0, 1) := by decide +kernel
theorem dX12_line_126 : decode cX12_line 126 = .ok (.getfield 152, 3) := by decide +kernel
theorem dX12_line_129 : decode cX12_line 129 = .ok (.iload_n 1, 1) := by decide +kernel
theorem dX12_line_130 : decode cX12_line 130 = .ok (.iastore, 1) := by decide +kernel
theorem dX12_line_131 : decode cX12_line 131 = .ok (.aload_n 0, 1) := by decide +kernel
theorem dX12_line_132 : decode cX12_line 132 = .ok (.getfield 31, 3) := by decide +kernel
theorem dX12_line_135 : decode cX12_line 135 = .ok (.aload_n 0, 1) := by decide +kernel
theorem dX12_line_136 : decode cX12_line 136 = .ok (.getfield 152, 3) := by decide +kernel
theorem dX12_line_139 : decode cX12_line 139 = .ok (.iload_n 2, 1) := by decide +kernel
theorem dX12_line_140 : decode cX12_line 140 = .ok (.iastore, 1) := by decide +kernel
theorem dX12_line_141 : decode cX12_line 141 = .ok (.aload_n 0, 1) := by decide +kernel
theorem dX12_line_142 : decode cX12_line 142 = .ok (.getfield 34, 3) := by decide +kernel
theorem dX12_line_145 : decode cX12_line 145 = .ok (.aload_n 0, 1) := by decide +kernel
theorem dX12_line_146 : decode cX12_line 146 = .ok (.getfield 152, 3) := by decide +kernel
theorem dX12_line_149 : decode cX12_line 149 = .ok (.iload_n 3, 1) := by decide +kernel
theorem dX12_line_150 : decode cX12_line 150 = .ok (.iastore, 1) := by decide +kernel
theorem dX12_line_151 : decode cX12_line 151 = .ok (.aload_n 0, 1) := by decide +kernel
theorem dX12_line_152 : decode cX12_line 152 = .ok (.getfield 37, 3) := by decide +kernel
theorem dX12_line_155 : decode cX12_line 155 = .ok (.aload_n 0, 1) := by decide +kernel
theorem dX12_line_156 : decode cX12_line 156 = .ok (.getfield 152, 3) := by decide +kernel
theorem dX12_line_159 : decode cX12_line 159 = .ok (.iload 4, 2) := by decide +kernel
theorem dX12_line_161 : decode cX12_line 161 = .ok (.iastore, 1) := by decide +kernel
theorem dX12_line_162 : decode cX12_line 162 = .ok (.aload_n 0, 1) := by decide +kernel
theorem dX12_line_163 : decode cX12_line 163 = .ok (.getfield 40, 3) := by decide +kernel
theorem dX12_line_166 : decode cX12_line 166 = .ok (.aload_n 0, 1) := by decide +kernel
theorem dX12_line_167 : decode cX12_line 167 = .ok (.getfield 152, 3) := by decide +kernel
theorem dX12_line_170 : decode cX12_line 170 = .ok (.iload 5, 2) := by decide +kernel
theorem dX12_line_172 : decode cX12_line 172 = .ok (.iastore, 1) := by decide +kernel
theorem dX12_line_173 : decode cX12_line 173 = .ok (.aload_n 0, 1) := by decide +kernel
theorem dX12_line_174 : decode cX12_line 174 = .ok (.getfield 43, 3) := by decide +kernel
theorem dX12_line_177 : decode cX12_line 177 = .ok (.aload_n 0, 1) := by decide +kernel
theorem dX12_line_178 : decode cX12_line 178 = .ok (.getfield 152, 3) := by decide +kernel
theorem dX12_line_181 : decode cX12_line 181 = .ok (.iload 6, 2) := by decide +kernel
theorem dX12_line_183 : decode cX12_line 183 = .ok (.iastore, 1) := by decide +kernel
theorem dX12_line_184 : decode cX12_line 184 = .ok (.aload_n 0, 1) := by decide +kernel
theorem dX12_line_185 : decode cX12_line 185 = .ok (.getfield 46, 3) := by decide +kernel
theorem dX12_line_188 : decode cX12_line 188 = .ok (.aload_n 0, 1) := by decide +kernel
theorem dX12_line_189 : decode cX12_line 189 = .ok (.getfield 152, 3) := by decide +kernel
theorem dX12_line_192 : decode cX12_line 192 = .ok (.aload_n 0, 1) := by decide +kernel
theorem dX12_line_193 : decode cX12_line 193 = .ok (.getfield 142, 3) := by decide +kernel
theorem dX12_line_196 : decode cX12_line 196 = .ok (.iastore, 1) := by decide +kernel
theorem dX12_line_197 : decode cX12_line 197 = .ok (.aload_n 0, 1) := by decide +kernel
theorem dX12_line_198 : decode cX12_line 198 = .ok (.dup, 1) := by decide +kernel
theorem dX12_line_199 : decode cX12_line 199 = .ok (.getfield 152, 3) := by decide +kernel
theorem dX12_line_202 : decode cX12_line 202 = .ok (.iconst 1, 1) := by decide +kernel
theorem dX12_line_203 : decode cX12_line 203 = .ok (.iadd, 1) := by decide +kernel
theorem dX12_line_204 : decode cX12_line 204 = .ok (.putfield 152, 3) := by decide +kernel
theorem dX12_line_207 : decode cX12_line 207 = .ok (.aload_n 0, 1) := by decide +kernel
theorem dX12_line_208 : decode cX12_line 208 = .ok (.getfield 152, 3) := by decide +kernel
theorem dX12_line_211 : decode cX12_line 211 = .ok (.iconst 1, 1) := by decide +kernel
theorem dX12_line_212 : decode cX12_line 212 = .ok (.isub, 1) := by decide +kernel
theorem dX12_line_213 : decode cX12_line 213 = .ok (.ireturn, 1) := by decide +kernel
theorem dX12_mark_0 : decode cX12_mark 0 = .ok (.aload_n 0, 1) := by decide +kernel
theorem dX12_mark_1 : decode cX12_mark 1 = .ok (.iconst 0, 1) := by decide +kernel
theorem dX12_mark_2 : decode cX12_mark 2 = .ok (.putfield 138, 3) := by decide +kernel
theorem dX12_mark_5 : decode cX12_mark 5 = .ok (.aload_n 0, 1) := by decide +kernel
theorem dX12_mark_6 : decode cX12_mark 6 = .ok (.getfield 335, 3) := by decide +kernel
theorem dX12_mark_9 : decode cX12_mark 9 = .ok (.sipush 200, 3) := by decide +kernel
theorem dX12_mark_12 : decode cX12_mark 12 = .ok (.if_icmp .eq 28, 3) := by decide +kernel
theorem dX12_mark_15 : decode cX12_mark 15 = .ok (.iload_n 1, 1) := by decide +kernel
theorem dX12_mark_16 : decode cX12_mark 16 = .ok (.invokestatic 338, 3) := by decide +kernel
theorem dX12_mark_19 : decode cX12_mark 19 = .ok (.ifCond .eq 21, 3) := by decide +kernel
theorem dX12_mark_22 : decode cX12_mark 22 = .ok (.aload_n 0, 1) := by decide +kernel
theorem dX12_mark_23 : decode cX12_mark 23 = .ok (.iload_n 2, 1) := by decide +kernel
theorem dX12_mark_24 : decode cX12_mark 24 = .ok (.invokevirtual 155, 3) := by decide +kernel
theorem dX12_mark_27 : decode cX12_mark 27 = .ok (.ifCond .eq 13, 3) := by decide +kernel
theorem dX12_mark_30 : decode cX12_mark 30 = .ok (.iload_n 3, 1) := by decide +kernel
theorem dX12_mark_31 : decode cX12_mark 31 = .ok (.iconst 0, 1) := by decide +kernel
theorem dX12_mark_32 : decode cX12_mark 32 = .ok (.bipush 9, 2) := by decide +kernel
theorem dX12_mark_34 : decode cX12_mark 34 = .ok (.invokestatic 145, 3) := by decide +kernel
theorem dX12_mark_37 : decode cX12_mark 37 = .ok (.ifCond .ne 5, 3) := by decide +kernel
theorem dX12_mark_40 : decode cX12_mark 40 = .ok (.iconst 0, 1) := by decide +kernel
theorem dX12_mark_41 : decode cX12_mark 41 = .ok (.ireturn, 1) := by decide +kernel
theorem dX12_mark_42 : decode cX12_mark 42 = .ok (.aload_n 0, 1) := by decide +kernel
theorem dX12_mark_43 : decode cX12_mark 43 = .ok (.getfield 93, 3) := by decide +kernel
theorem dX12_mark_46 : decode cX12_mark 46 = .ok (.aload_n 0, 1) := by decide +kernel
theorem dX12_mark_47 : decode cX12_mark 47 = .ok (.getfield 335, 3) := by decide +kernel
theorem dX12_mark_50 : decode cX12_mark 50 = .ok (.iload_n 1, 1) := by decide +kernel
theorem dX12_mark_51 : decode cX12_mark 51 = .ok (.iastore, 1) := by decide +kernel
theorem dX12_mark_52 : decode cX12_mark 52 = .ok (.aload_n 0, 1) := by decide +kernel
theorem dX12_mark_53 : decode cX12_mark 53 = .ok (.getfield 96, 3) := by decide +kernel
theorem dX12_mark_56 : decode cX12_mark 56 = .ok (.aload_n 0, 1) := by decide +kernel
theorem dX12_mark_57 : decode cX12_mark 57 = .ok (.getfield 335, 3) := by decide +kernel
theorem dX12_mark_60 : decode cX12_mark 60 = .ok (.iload_n 2, 1) := by decide +kernel
theorem dX12_mark_61 : decode cX12_mark 61 = .ok (.iastore, 1) := by decide +kernel
theorem dX12_mark_62 : decode cX12_mark 62 = .ok (.aload_n 0, 1) := by decide +kernel
theorem dX12_mark_63 : decode cX12_mark 63 = .ok (.getfield 99, 3) := by decide +kernel
theorem dX12_mark_66 : decode cX12_mark 66 = .ok (.aload_n 0, 1) := by decide +kernel
theorem dX12_mark_67 : decode cX12_mark 67 = .ok (.getfield 335, 3) := by decide +kernel
theorem dX12_mark_70 : decode cX12_mark 70 = .ok (.iload_n 3, 1) := by decide +kernel
theorem dX12_mark_71 : decode cX12_mark 71 = .ok (.iastore, 1) := by decide +kernel
theorem dX12_mark_72 : decode cX12_mark 72 = .ok (.aload_n 0, 1) := by decide +kernel
theorem dX12_mark_73 : decode cX12_mark 73 = .ok (.getfield 102, 3) := by decide +kernel
theorem dX12_mark_76 : decode cX12_mark 76 = .ok (.aload_n 0, 1) := by decide +kernel
theorem dX12_mark_77 : decode cX12_mark 77 = .ok (.getfield 335, 3) := by decide +kernel
theorem dX12_mark_80 : decode cX12_mark 80 = .ok (.aload_n 0, 1) := by decide +kernel
theorem dX12_mark_81 : decode cX12_mark 81 = .ok (.getfield 142, 3) := by decide +kernel
theorem dX12_mark_84 : decode cX12_mark 84 = .ok (.iastore, 1) := by decide +kernel
theorem dX12_mark_85 : decode cX12_mark 85 = .ok (.aload_n 0, 1) := by decide +kernel
theorem dX12_mark_86 : decode cX12_mark 86 = .ok (.dup, 1) := by decide +kernel
theorem dX12_mark_87 : decode cX12_mark 87 = .ok (.getfield 335, 3) := by decide +kernel
theorem dX12_mark_90 : decode cX12_mark 90 = .ok (.iconst 1, 1) := by decide +kernel
theorem dX12_mark_91 : decode cX12_mark 91 = .ok (.iadd, 1) := by decide +kernel
theorem dX12_mark_92 : decode cX12_mark 92 = .ok (.putfield 335, 3) := by decide +kernel
theorem dX12_mark_95 : decode cX12_mark 95 = .ok (.iconst 1, 1) := by decide +kernel
theorem dX12_mark_96 : decode cX12_mark 96 = .ok (.ireturn, 1) := by decide +kernel
theorem dX12_markOf_0 : decode cX12_markOf 0 = .ok (.iconst (-1), 1) := by decide +kernel
theorem dX12_markOf_1 : decode cX12_markOf 1 = .ok (.istore 4, 2) := by decide +kernel
theorem dX12_markOf_3 : decode cX12_markOf 3 = .ok (.iconst 0, 1) := by decide +kernel
theorem dX12_markOf_4 : decode cX12_markOf 4 = .ok (.istore 5, 2) := by decide +kernel
theorem dX12_markOf_6 : decode cX12_markOf 6 = .ok (.iload 5, 2) := by decide +kernel
theorem dX12_markOf_8 : decode cX12_markOf 8 = .ok (.aload_n 0, 1) := by decide +kernel
theorem dX12_markOf_9 : decode cX12_markOf 9 = .ok (.getfield 335, 3) := by decide +kernel
theorem dX12_markOf_12 : decode cX12_markOf 12 = .ok (.if_icmp .ge 51, 3) := by decide +kernel
theorem dX12_markOf_15 : decode cX12_markOf 15 = .ok (.aload_n 0, 1) := by decide +kernel
theorem dX12_markOf_16 : decode cX12_markOf 16 = .ok (.getfield 93, 3) := by decide +kernel
theorem dX12_markOf_19 : decode cX12_markOf 19 = .ok (.iload 5, 2) := by decide +kernel
theorem dX12_markOf_21 : decode cX12_markOf 21 = .ok (.iaload, 1) := by decide +kernel
theorem dX12_markOf_22 : decode cX12_markOf 22 = .ok (.iload_n 1, 1) := by decide +kernel
theorem dX12_markOf_23 : decode cX12_markOf 23 = .ok (.if_icmp .ne 34, 3) := by decide +kernel
theorem dX12_markOf_26 : decode cX12_markOf 26 = .ok (.aload_n 0, 1) := by decide +kernel
theorem dX12_markOf_27 : decode cX12_markOf 27 = .ok (.getfield 96, 3) := by decide +kernel
theorem dX12_markOf_30 : decode cX12_markOf 30 = .ok (.iload 5, 2) := by decide +kernel
theorem dX12_markOf_32 : decode cX12_markOf 32 = .ok (.iaload, 1) := by decide +kernel
theorem dX12_markOf_33 : decode cX12_markOf 33 = .ok (.iload_n 2, 1) := by decide +kernel
theorem dX12_markOf_34 : decode cX12_markOf 34 = .ok (.if_icmp .ne 23, 3) := by decide +kernel
theorem dX12_markOf_37 : decode cX12_markOf 37 = .ok (.aload_n 0, 1) := by decide +kernel
theorem dX12_markOf_38 : decode cX12_markOf 38 = .ok (.getfield 102, 3) := by decide +kernel
theorem dX12_markOf_41 : decode cX12_markOf 41 = .ok (.iload 5, 2) := by decide +kernel
theorem dX12_markOf_43 : decode cX12_markOf 43 = .ok (.iaload, 1) := by decide +kernel
theorem dX12_markOf_44 : decode cX12_markOf 44 = .ok (.iload_n 3, 1) := by decide +kernel
theorem dX12_markOf_45 : decode cX12_markOf 45 = .ok (.if_icmp .gt 12, 3) := by decide +kernel
theorem dX12_markOf_48 : decode cX12_markOf 48 = .ok (.aload_n 0, 1) := by decide +kernel
theorem dX12_markOf_49 : decode cX12_markOf 49 = .ok (.getfield 99, 3) := by decide +kernel
theorem dX12_markOf_52 : decode cX12_markOf 52 = .ok (.iload 5, 2) := by decide +kernel
theorem dX12_markOf_54 : decode cX12_markOf 54 = .ok (.iaload, 1) := by decide +kernel
theorem dX12_markOf_55 : decode cX12_markOf 55 = .ok (.istore 4, 2) := by decide +kernel
theorem dX12_markOf_57 : decode cX12_markOf 57 = .ok (.iinc 5 1, 3) := by decide +kernel
theorem dX12_markOf_60 : decode cX12_markOf 60 = .ok (.goto (-54), 3) := by decide +kernel
theorem dX12_markOf_63 : decode cX12_markOf 63 = .ok (.iload 4, 2) := by decide +kernel
theorem dX12_markOf_65 : decode cX12_markOf 65 = .ok (.ireturn, 1) := by decide +kernel
theorem dX12_marked_0 : decode cX12_marked 0 = .ok (.aload_n 0, 1) := by decide +kernel
theorem dX12_marked_1 : decode cX12_marked 1 = .ok (.iconst 0, 1) := by decide +kernel
theorem dX12_marked_2 : decode cX12_marked 2 = .ok (.putfield 138, 3) := by decide +kernel
theorem dX12_marked_5 : decode cX12_marked 5 = .ok (.iload_n 1, 1) := by decide +kernel
theorem dX12_marked_6 : decode cX12_marked 6 = .ok (.invokestatic 338, 3) := by decide +kernel
theorem dX12_marked_9 : decode cX12_marked 9 = .ok (.ifCond .eq 29, 3) := by decide +kernel
theorem dX12_marked_12 : decode cX12_marked 12 = .ok (.aload_n 0, 1) := by decide +kernel
theorem dX12_marked_13 : decode cX12_marked 13 = .ok (.iload_n 2, 1) := by decide +kernel
theorem dX12_marked_14 : decode cX12_marked 14 = .ok (.invokevirtual 155, 3) := by decide +kernel
theorem dX12_marked_17 : decode cX12_marked 17 = .ok (.ifCond .eq 21, 3) := by decide +kernel
theorem dX12_marked_20 : decode cX12_marked 20 = .ok (.aload_n 0, 1) := by decide +kernel
theorem dX12_marked_21 : decode cX12_marked 21 = .ok (.iload_n 3, 1) := by decide +kernel
theorem dX12_marked_22 : decode cX12_marked 22 = .ok (.invokevirtual 159, 3) := by decide +kernel
theorem dX12_marked_25 : decode cX12_marked 25 = .ok (.ifCond .eq 13, 3) := by decide +kernel
theorem dX12_marked_28 : decode cX12_marked 28 = .ok (.aload_n 0, 1) := by decide +kernel
theorem dX12_marked_29 : decode cX12_marked 29 = .ok (.iload_n 1, 1) := by decide +kernel
theorem dX12_marked_30 : decode cX12_marked 30 = .ok (.iload_n 2, 1) := by decide +kernel
theorem dX12_marked_31 : decode cX12_marked 31 = .ok (.iload_n 3, 1) := by decide +kernel
theorem dX12_marked_32 : decode cX12_marked 32 = .ok (.invokevirtual 341, 3) := by decide +kernel
theorem dX12_marked_35 : decode cX12_marked 35 = .ok (.goto 4, 3) := by decide +kernel
theorem dX12_marked_38 : decode cX12_marked 38 = .ok (.iconst (-1), 1) := by decide +kernel
theorem dX12_marked_39 : decode cX12_marked 39 = .ok (.ireturn, 1) := by decide +kernel
theorem dX12_maySee_0 : decode cX12_maySee 0 = .ok (.aload_n 0, 1) := by decide +kernel
theorem dX12_maySee_1 : decode cX12_maySee 1 = .ok (.getfield 120, 3) := by decide +kernel
theorem dX12_maySee_4 : decode cX12_maySee 4 = .ok (.iload_n 2, 1) := by decide +kernel
theorem dX12_maySee_5 : decode cX12_maySee 5 = .ok (.iaload, 1) := by decide +kernel
theorem dX12_maySee_6 : decode cX12_maySee 6 = .ok (.aload_n 0, 1) := by decide +kernel
theorem dX12_maySee_7 : decode cX12_maySee 7 = .ok (.getfield 111, 3) := by decide +kernel
theorem dX12_maySee_10 : decode cX12_maySee 10 = .ok (.iload_n 1, 1) := by decide +kernel
theorem dX12_maySee_11 : decode cX12_maySee 11 = .ok (.iaload, 1) := by decide +kernel
theorem dX12_maySee_12 : decode cX12_maySee 12 = .ok (.aload_n 0, 1) := by decide +kernel
theorem dX12_maySee_13 : decode cX12_maySee 13 = .ok (.getfield 114, 3) := by decide +kernel
theorem dX12_maySee_16 : decode cX12_maySee 16 = .ok (.iload_n 1, 1) := by decide +kernel
theorem dX12_maySee_17 : decode cX12_maySee 17 = .ok (.iaload, 1) := by decide +kernel
theorem dX12_maySee_18 : decode cX12_maySee 18 = .ok (.invokestatic 145, 3) := by decide +kernel
theorem dX12_maySee_21 : decode cX12_maySee 21 = .ok (.ifCond .ne 5, 3) := by decide +kernel
theorem dX12_maySee_24 : decode cX12_maySee 24 = .ok (.iconst 0, 1) := by decide +kernel
theorem dX12_maySee_25 : decode cX12_maySee 25 = .ok (.ireturn, 1) := by decide +kernel
theorem dX12_maySee_26 : decode cX12_maySee 26 = .ok (.iconst 0, 1) := by decide +kernel
theorem dX12_maySee_27 : decode cX12_maySee 27 = .ok (.istore_n 3, 1) := by decide +kernel
theorem dX12_maySee_28 : decode cX12_maySee 28 = .ok (.iload_n 3, 1) := by decide +kernel
theorem dX12_maySee_29 : decode cX12_maySee 29 = .ok (.iload_n 2, 1) := by decide +kernel
theorem dX12_maySee_30 : decode cX12_maySee 30 = .ok (.if_icmp .ge 65, 3) := by decide +kernel
theorem dX12_maySee_33 : decode cX12_maySee 33 = .ok (.aload_n 0, 1) := by decide +kernel
theorem dX12_maySee_34 : decode cX12_maySee 34 = .ok (.getfield 120, 3) := by decide +kernel
theorem dX12_maySee_37 : decode cX12_maySee 37 = .ok (.iload_n 2, 1) := by decide +kernel
theorem dX12_maySee_38 : decode cX12_maySee 38 = .ok (.iaload, 1) := by decide +kernel
theorem dX12_maySee_39 : decode cX12_maySee 39 = .ok (.aload_n 0, 1) := by decide +kernel
theorem dX12_maySee_40 : decode cX12_maySee 40 = .ok (.getfield 120, 3) := by decide +kernel
theorem dX12_maySee_43 : decode cX12_maySee 43 = .ok (.iload_n 3, 1) := by decide +kernel
theorem dX12_maySee_44 : decode cX12_maySee 44 = .ok (.iaload, 1) := by decide +kernel
theorem dX12_maySee_45 : decode cX12_maySee 45 = .ok (.isub, 1) := by decide +kernel
theorem dX12_maySee_46 : decode cX12_maySee 46 = .ok (.invokestatic 323, 3) := by decide +kernel
theorem dX12_maySee_49 : decode cX12_maySee 49 = .ok (.istore 4, 2) := by decide +kernel
theorem dX12_maySee_51 : decode cX12_maySee 51 = .ok (.aload_n 0, 1) := by decide +kernel
theorem dX12_maySee_52 : decode cX12_maySee 52 = .ok (.getfield 123, 3) := by decide +kernel
theorem dX12_maySee_55 : decode cX12_maySee 55 = .ok (.iload_n 3, 1) := by decide +kernel
theorem dX12_maySee_56 : decode cX12_maySee 56 = .ok (.iaload, 1) := by decide +kernel
theorem dX12_maySee_57 : decode cX12_maySee 57 = .ok (.iload_n 1, 1) := by decide +kernel
theorem dX12_maySee_58 : decode cX12_maySee 58 = .ok (.if_icmp .ne 31, 3) := by decide +kernel
theorem dX12_maySee_61 : decode cX12_maySee 61 = .ok (.iload 4, 2) := by decide +kernel
theorem dX12_maySee_63 : decode cX12_maySee 63 = .ok (.ifCond .eq 24, 3) := by decide +kernel
theorem dX12_maySee_66 : decode cX12_maySee 66 = .ok (.iload 4, 2) := by decide +kernel
theorem dX12_maySee_68 : decode cX12_maySee 68 = .ok (.iconst 2, 1) := by decide +kernel
theorem dX12_maySee_69 : decode cX12_maySee 69 = .ok (.if_icmp .ge 20, 3) := by decide +kernel
theorem dX12_maySee_72 : decode cX12_maySee 72 = .ok (.aload_n 0, 1) := by decide +kernel
theorem dX12_maySee_73 : decode cX12_maySee 73 = .ok (.getfield 117, 3) := by decide +kernel
theorem dX12_maySee_76 : decode cX12_maySee 76 = .ok (.iload_n 2, 1) := by decide +kernel
theorem dX12_maySee_77 : decode cX12_maySee 77 = .ok (.iaload, 1) := by decide +kernel
theorem dX12_maySee_78 : decode cX12_maySee 78 = .ok (.aload_n 0, 1) := by decide +kernel
theorem dX12_maySee_79 : decode cX12_maySee 79 = .ok (.getfield 117, 3) := by decide +kernel
theorem dX12_maySee_82 : decode cX12_maySee 82 = .ok (.iload_n 3, 1) := by decide +kernel
theorem dX12_maySee_83 : decode cX12_maySee 83 = .ok (.iaload, 1) := by decide +kernel
theorem dX12_maySee_84 : decode cX12_maySee 84 = .ok (.if_icmp .eq 5, 3) := by decide +kernel
theorem dX12_maySee_87 : decode cX12_maySee 87 = .ok (.iconst 0, 1) := by decide +kernel
theorem dX12_maySee_88 : decode cX12_maySee 88 = .ok (.ireturn, 1) := by decide +kernel
theorem dX12_maySee_89 : decode cX12_maySee 89 = .ok (.iinc 3 1, 3) := by decide +kernel
theorem dX12_maySee_92 : decode cX12_maySee 92 = .ok (.goto (-64), 3) := by decide +kernel
theorem dX12_maySee_95 : decode cX12_maySee 95 = .ok (.iconst 1, 1) := by decide +kernel
theorem dX12_maySee_96 : decode cX12_maySee 96 = .ok (.ireturn, 1) := by decide +kernel
theorem dX12_mood_0 : decode cX12_mood 0 = .ok (.aload_n 0, 1) := by decide +kernel
theorem dX12_mood_1 : decode cX12_mood 1 = .ok (.iconst 0, 1) := by decide +kernel
theorem dX12_mood_2 : decode cX12_mood 2 = .ok (.putfield 138, 3) := by decide +kernel
theorem dX12_mood_5 : decode cX12_mood 5 = .ok (.iload_n 1, 1) := by decide +kernel
theorem dX12_mood_6 : decode cX12_mood 6 = .ok (.invokestatic 175, 3) := by decide +kernel
theorem dX12_mood_9 : decode cX12_mood 9 = .ok (.ifCond .eq 20, 3) := by decide +kernel
theorem dX12_mood_12 : decode cX12_mood 12 = .ok (.aload_n 0, 1) := by decide +kernel
theorem dX12_mood_13 : decode cX12_mood 13 = .ok (.iload_n 2, 1) := by decide +kernel
theorem dX12_mood_14 : decode cX12_mood 14 = .ok (.invokevirtual 159, 3) := by decide +kernel
theorem dX12_mood_17 : decode cX12_mood 17 = .ok (.ifCond .eq 12, 3) := by decide +kernel
theorem dX12_mood_20 : decode cX12_mood 20 = .ok (.iload_n 3, 1) := by decide +kernel
theorem dX12_mood_21 : decode cX12_mood 21 = .ok (.iconst 0, 1) := by decide +kernel
theorem dX12_mood_22 : decode cX12_mood 22 = .ok (.iconst 1, 1) := by decide +kernel
theorem dX12_mood_23 : decode cX12_mood 23 = .ok (.invokestatic 145, 3) := by decide +kernel
theorem dX12_mood_26 : decode cX12_mood 26 = .ok (.ifCond .ne 7, 3) := by decide +kernel
theorem dX12_mood_29 : decode cX12_mood 29 = .ok (.ldc_w 344, 3) := by decide +kernel
theorem dX12_mood_32 : decode cX12_mood 32 = .ok (.ireturn, 1) := by decide +kernel
theorem dX12_mood_33 : decode cX12_mood 33 = .ok (.iconst 0, 1) := by decide +kernel
theorem dX12_mood_34 : decode cX12_mood 34 = .ok (.istore 4, 2) := by decide +kernel
theorem dX12_mood_36 : decode cX12_mood 36 = .ok (.iconst 0, 1) := by decide +kernel
theorem dX12_mood_37 : decode cX12_mood 37 = .ok (.istore 5, 2) := by decide +kernel
theorem dX12_mood_39 : decode cX12_mood 39 = .ok (.iconst 0, 1) := by decide +kernel
theorem dX12_mood_40 : decode cX12_mood 40 = .ok (.istore 6, 2) := by decide +kernel
theorem dX12_mood_42 : decode cX12_mood 42 = .ok (.iload 6, 2) := by decide +kernel
theorem dX12_mood_44 : decode cX12_mood 44 = .ok (.aload_n 0, 1) := by decide +kernel
theorem dX12_mood_45 : decode cX12_mood 45 = .ok (.getfield 152, 3) := by decide +kernel
theorem dX12_mood_48 : decode cX12_mood 48 = .ok (.if_icmp .ge 49, 3) := by decide +kernel
theorem dX12_mood_51 : decode cX12_mood 51 = .ok (.aload_n 0, 1) := by decide +kernel
theorem dX12_mood_52 : decode cX12_mood 52 = .ok (.getfield 31, 3) := by decide +kernel
theorem dX12_mood_55 : decode cX12_mood 55 = .ok (.iload 6, 2) := by decide +kernel
theorem dX12_mood_57 : decode cX12_mood 57 = .ok (.iaload, 1) := by decide +kernel
theorem dX12_mood_58 : decode cX12_mood 58 = .ok (.iload_n 1, 1) := by decide +kernel
theorem dX12_mood_59 : decode cX12_mood 59 = .ok (.if_icmp .ne 32, 3) := by decide +kernel
theorem dX12_mood_62 : decode cX12_mood 62 = .ok (.aload_n 0, 1) := by decide +kernel
theorem dX12_mood_63 : decode cX12_mood 63 = .ok (.getfield 46, 3) := by decide +kernel
theorem dX12_mood_66 : decode cX12_mood 66 = .ok (.iload 6, 2) := by decide +kernel
theorem dX12_mood_68 : decode cX12_mood 68 = .ok (.iaload, 1) := by decide +kernel
theorem dX12_mood_69 : decode cX12_mood 69 = .ok (.iload_n 2, 1) := by decide +kernel
theorem dX12_mood_70 : decode cX12_mood 70 = .ok (.if_icmp .le 6, 3) := by decide +kernel
theorem dX12_mood_73 : decode cX12_mood 73 = .ok (.goto 18, 3) := by decide +kernel
theorem dX12_mood_76 : decode cX12_mood 76 = .ok (.iload 4, 2) := by decide +kernel
theorem dX12_mood_78 : decode cX12_mood 78 = .ok (.aload_n 0, 1) := by decide +kernel
theorem dX12_mood_79 : decode cX12_mood 79 = .ok (.getfield 37, 3) := by decide +kernel
theorem dX12_mood_82 : decode cX12_mood 82 = .ok (.iload 6, 2) := by decide +kernel
theorem dX12_mood_84 : decode cX12_mood 84 = .ok (.iaload, 1) := by decide +kernel
theorem dX12_mood_85 : decode cX12_mood 85 = .ok (.iadd, 1) := by decide +kernel
theorem dX12_mood_86 : decode cX12_mood 86 = .ok (.istore 4, 2) := by decide +kernel
theorem dX12_mood_88 : decode cX12_mood 88 = .ok (.iinc 5 1, 3) := by decide +kernel
theorem dX12_mood_91 : decode cX12_mood 91 = .ok (.iinc 6 1, 3) := by decide +kernel
theorem dX12_mood_94 : decode cX12_mood 94 = .ok (.goto (-52), 3) := by decide +kernel
theorem dX12_mood_97 : decode cX12_mood 97 = .ok (.iload_n 3, 1) := by decide +kernel
theorem dX12_mood_98 : decode cX12_mood 98 = .ok (.ifCond .ne 8, 3) := by decide +kernel
theorem dX12_mood_101 : decode cX12_mood 101 = .ok (.iload 4, 2) := by decide +kernel
theorem dX12_mood_103 : decode cX12_mood 103 = .ok (.goto 5, 3) := by decide +kernel
theorem dX12_mood_106 : decode cX12_mood 106 = .ok (.iload 5, 2) := by decide +kernel
theorem dX12_mood_108 : decode cX12_mood 108 = .ok (.ireturn, 1) := by decide +kernel
theorem dX12_people_0 : decode cX12_people 0 = .ok (.iconst 0, 1) := by decide +kernel
theorem dX12_people_1 : decode cX12_people 1 = .ok (.istore_n 1, 1) := by decide +kernel
theorem dX12_people_2 : decode cX12_people 2 = .ok (.iconst 0, 1) := by decide +kernel
theorem dX12_people_3 : decode cX12_people 3 = .ok (.istore_n 2, 1) := by decide +kernel
theorem dX12_people_4 : decode cX12_people 4 = .ok (.iload_n 2, 1) := by decide +kernel
theorem dX12_people_5 : decode cX12_people 5 = .ok (.bipush 32, 2) := by decide +kernel
theorem dX12_people_7 : decode cX12_people 7 = .ok (.if_icmp .ge 18, 3) := by decide +kernel
theorem dX12_people_10 : decode cX12_people 10 = .ok (.iload_n 1, 1) := by decide +kernel
theorem dX12_people_11 : decode cX12_people 11 = .ok (.aload_n 0, 1) := by decide +kernel
theorem dX12_people_12 : decode cX12_people 12 = .ok (.getfield 105, 3) := by decide +kernel
theorem dX12_people_15 : decode cX12_people 15 = .ok (.iload_n 2, 1) := by decide +kernel
theorem dX12_people_16 : decode cX12_people 16 = .ok (.iaload, 1) := by decide +kernel
theorem dX12_people_17 : decode cX12_people 17 = .ok (.iadd, 1) := by decide +kernel
theorem dX12_people_18 : decode cX12_people 18 = .ok (.istore_n 1, 1) := by decide +kernel
theorem dX12_people_19 : decode cX12_people 19 = .ok (.iinc 2 1, 3) := by decide +kernel
theorem dX12_people_22 : decode cX12_people 22 = .ok (.goto (-18), 3) := by decide +kernel
theorem dX12_people_25 : decode cX12_people 25 = .ok (.iload_n 1, 1) := by decide +kernel
theorem dX12_people_26 : decode cX12_people 26 = .ok (.ireturn, 1) := by decide +kernel
theorem dX12_person_0 : decode cX12_person 0 = .ok (.aload_n 0, 1) := by decide +kernel
theorem dX12_person_1 : decode cX12_person 1 = .ok (.iconst 0, 1) := by decide +kernel
theorem dX12_person_2 : decode cX12_person 2 = .ok (.putfield 138, 3) := by decide +kernel
theorem dX12_person_5 : decode cX12_person 5 = .ok (.aload_n 0, 1) := by decide +kernel
theorem dX12_person_6 : decode cX12_person 6 = .ok (.getfield 149, 3) := by decide +kernel
theorem dX12_person_9 : decode cX12_person 9 = .ok (.bipush 24, 2) := by decide +kernel
theorem dX12_person_11 : decode cX12_person 11 = .ok (.if_icmp .eq 34, 3) := by decide +kernel
theorem dX12_person_14 : decode cX12_person 14 = .ok (.iload_n 1, 1) := by decide +kernel
theorem dX12_person_15 : decode cX12_person 15 = .ok (.iconst 0, 1) := by decide +kernel
theorem dX12_person_16 : decode cX12_person 16 = .ok (.bipush 7, 2) := by decide +kernel
theorem dX12_person_18 : decode cX12_person 18 = .ok (.invokestatic 145, 3) := by decide +kernel
theorem dX12_person_21 : decode cX12_person 21 = .ok (.ifCond .eq 24, 3) := by decide +kernel
theorem dX12_person_24 : decode cX12_person 24 = .ok (.iload_n 2, 1) := by decide +kernel
theorem dX12_person_25 : decode cX12_person 25 = .ok (.bipush 10, 2) := by decide +kernel
theorem dX12_person_27 : decode cX12_person 27 = .ok (.bipush 99, 2) := by decide +kernel
theorem dX12_person_29 : decode cX12_person 29 = .ok (.invokestatic 145, 3) := by decide +kernel
theorem dX12_person_32 : decode cX12_person 32 = .ok (.ifCond .eq 13, 3) := by decide +kernel
theorem dX12_person_35 : decode cX12_person 35 = .ok (.iload_n 3, 1) := by decide +kernel
theorem dX12_person_36 : decode cX12_person 36 = .ok (.iconst 0, 1) := by decide +kernel
theorem dX12_person_37 : decode cX12_person 37 = .ok (.bipush 7, 2) := by decide +kernel
theorem dX12_person_39 : decode cX12_person 39 = .ok (.invokestatic 145, 3) := by decide +kernel
theorem dX12_person_42 : decode cX12_person 42 = .ok (.ifCond .ne 5, 3) := by decide +kernel
theorem dX12_person_45 : decode cX12_person 45 = .ok (.iconst (-1), 1) := by decide +kernel
theorem dX12_person_46 : decode cX12_person 46 = .ok (.ireturn, 1) := by decide +kernel
theorem dX12_person_47 : decode cX12_person 47 = .ok (.aload_n 0, 1) := by decide +kernel
theorem dX12_person_48 : decode cX12_person 48 = .ok (.getfield 9, 3) := by decide +kernel
theorem dX12_person_51 : decode cX12_person 51 = .ok (.aload_n 0, 1) := by decide +kernel
theorem dX12_person_52 : decode cX12_person 52 = .ok (.getfield 149, 3) := by decide +kernel
theorem dX12_person_55 : decode cX12_person 55 = .ok (.iload_n 1, 1) := by decide +kernel
theorem dX12_person_56 : decode cX12_person 56 = .ok (.iastore, 1) := by decide +kernel
theorem dX12_person_57 : decode cX12_person 57 = .ok (.aload_n 0, 1) := by decide +kernel
theorem dX12_person_58 : decode cX12_person 58 = .ok (.getfield 13, 3) := by decide +kernel
theorem dX12_person_61 : decode cX12_person 61 = .ok (.aload_n 0, 1) := by decide +kernel
theorem dX12_person_62 : decode cX12_person 62 = .ok (.getfield 149, 3) := by decide +kernel
theorem dX12_person_65 : decode cX12_person 65 = .ok (.iload_n 2, 1) := by decide +kernel
theorem dX12_person_66 : decode cX12_person 66 = .ok (.iastore, 1) := by decide +kernel
theorem dX12_person_67 : decode cX12_person 67 = .ok (.aload_n 0, 1) := by decide +kernel
theorem dX12_person_68 : decode cX12_person 68 = .ok (.getfield 16, 3) := by decide +kernel
theorem dX12_person_71 : decode cX12_person 71 = .ok (.aload_n 0, 1) := by decide +kernel
theorem dX12_person_72 : decode cX12_person 72 = .ok (.getfield 149, 3) := by decide +kernel
theorem dX12_person_75 : decode cX12_person 75 = .ok (.iload_n 3, 1) := by decide +kernel
theorem dX12_person_76 : decode cX12_person 76 = .ok (.iastore, 1) := by decide +kernel
theorem dX12_person_77 : decode cX12_person 77 = .ok (.aload_n 0, 1) := by decide +kernel
theorem dX12_person_78 : decode cX12_person 78 = .ok (.dup, 1) := by decide +kernel
theorem dX12_person_79 : decode cX12_person 79 = .ok (.getfield 149, 3) := by decide +kernel
theorem dX12_person_82 : decode cX12_person 82 = .ok (.iconst 1, 1) := by decide +kernel
theorem dX12_person_83 : decode cX12_person 83 = .ok (.iadd, 1) := by decide +kernel
theorem dX12_person_84 : decode cX12_person 84 = .ok (.putfield 149, 3) := by decide +kernel
theorem dX12_person_87 : decode cX12_person 87 = .ok (.aload_n 0, 1) := by decide +kernel
theorem dX12_person_88 : decode cX12_person 88 = .ok (.getfield 149, 3) := by decide +kernel
theorem dX12_person_91 : decode cX12_person 91 = .ok (.iconst 1, 1) := by decide +kernel
theorem dX12_person_92 : decode cX12_person 92 = .ok (.isub, 1) := by decide +kernel
theorem dX12_person_93 : decode cX12_person 93 = .ok (.ireturn, 1) := by decide +kernel
theorem dX12_priceOf_0 : decode cX12_priceOf 0 = .ok (.iconst 0, 1) := by decide +kernel
theorem dX12_priceOf_1 : decode cX12_priceOf 1 = .ok (.istore_n 2, 1) := by decide +kernel
theorem dX12_priceOf_2 : decode cX12_priceOf 2 = .ok (.iconst 0, 1) := by decide +kernel
theorem dX12_priceOf_3 : decode cX12_priceOf 3 = .ok (.istore_n 3, 1) := by decide +kernel
theorem dX12_priceOf_4 : decode cX12_priceOf 4 = .ok (.iload_n 3, 1) := by decide +kernel
theorem dX12_priceOf_5 : decode cX12_priceOf 5 = .ok (.aload_n 0, 1) := by decide +kernel
theorem dX12_priceOf_6 : decode cX12_priceOf 6 = .ok (.getfield 393, 3) := by decide +kernel
theorem dX12_priceOf_9 : decode cX12_priceOf 9 = .ok (.if_icmp .ge 31, 3) := by decide +kernel
theorem dX12_priceOf_12 : decode cX12_priceOf 12 = .ok (.iload_n 2, 1) := by decide +kernel
theorem dX12_priceOf_13 : decode cX12_priceOf 13 = .ok (.iload_n 1, 1) := by decide +kernel
theorem dX12_priceOf_14 : decode cX12_priceOf 14 = .ok (.iload_n 3, 1) := by decide +kernel
theorem dX12_priceOf_15 : decode cX12_priceOf 15 = .ok (.ishr, 1) := by decide +kernel
theorem dX12_priceOf_16 : decode cX12_priceOf 16 = .ok (.iconst 1, 1) := by decide +kernel
theorem dX12_priceOf_17 : decode cX12_priceOf 17 = .ok (.iand, 1) := by decide +kernel
theorem dX12_priceOf_18 : decode cX12_priceOf 18 = .ok (.iconst 1, 1) := by decide +kernel
theorem dX12_priceOf_19 : decode cX12_priceOf 19 = .ok (.if_icmp .ne 12, 3) := by decide +kernel
theorem dX12_priceOf_22 : decode cX12_priceOf 22 = .ok (.aload_n 0, 1) := by decide +kernel
theorem dX12_priceOf_23 : decode cX12_priceOf 23 = .ok (.getfield 129, 3) := by decide +kernel
theorem dX12_priceOf_26 : decode cX12_priceOf 26 = .ok (.iload_n 3, 1) := by decide +kernel
theorem dX12_priceOf_27 : decode cX12_priceOf 27 = .ok (.iaload, 1) := by decide +kernel
theorem dX12_priceOf_28 : decode cX12_priceOf 28 = .ok (.goto 4, 3) := by decide +kernel
theorem dX12_priceOf_31 : decode cX12_priceOf 31 = .ok (.iconst 0, 1) := by decide +kernel
theorem dX12_priceOf_32 : decode cX12_priceOf 32 = .ok (.iadd, 1) := by decide +kernel
theorem dX12_priceOf_33 : decode cX12_priceOf 33 = .ok (.istore_n 2, 1) := by decide +kernel
theorem dX12_priceOf_34 : decode cX12_priceOf 34 = .ok (.iinc 3 1, 3) := by decide +kernel
theorem dX12_priceOf_37 : decode cX12_priceOf 37 = .ok (.goto (-33), 3) := by decide +kernel
theorem dX12_priceOf_40 : decode cX12_priceOf 40 = .ok (.iload_n 2, 1) := by decide +kernel
theorem dX12_priceOf_41 : decode cX12_priceOf 41 = .ok (.ireturn, 1) := by decide +kernel
theorem dX12_put_0 : decode cX12_put 0 = .ok (.bipush 24, 2) := by decide +kernel
theorem dX12_put_2 : decode cX12_put 2 = .ok (.istore_n 2, 1) := by decide +kernel
theorem dX12_put_3 : decode cX12_put 3 = .ok (.iload_n 2, 1) := by decide +kernel
theorem dX12_put_4 : decode cX12_put 4 = .ok (.ifCond .lt 45, 3) := by decide +kernel
theorem dX12_put_7 : decode cX12_put 7 = .ok (.iload_n 1, 1) := by decide +kernel
theorem dX12_put_8 : decode cX12_put 8 = .ok (.iload_n 2, 1) := by decide +kernel
theorem dX12_put_9 : decode cX12_put 9 = .ok (.ishr, 1) := by decide +kernel
theorem dX12_put_10 : decode cX12_put 10 = .ok (.sipush 255, 3) := by decide +kernel
theorem dX12_put_13 : decode cX12_put 13 = .ok (.iand, 1) := by decide +kernel
theorem dX12_put_14 : decode cX12_put 14 = .ok (.ifCond .ne 6, 3) := by decide +kernel
theorem dX12_put_17 : decode cX12_put 17 = .ok (.goto 26, 3) := by decide +kernel
theorem dX12_put_20 : decode cX12_put 20 = .ok (.aload_n 0, 1) := by decide +kernel
theorem dX12_put_21 : decode cX12_put 21 = .ok (.getfield 49, 3) := by decide +kernel
theorem dX12_put_24 : decode cX12_put 24 = .ok (.aload_n 0, 1) := by decide +kernel
theorem dX12_put_25 : decode cX12_put 25 = .ok (.getfield 178, 3) := by decide +kernel
theorem dX12_put_28 : decode cX12_put 28 = .ok (.iload_n 1, 1) := by decide +kernel
theorem dX12_put_29 : decode cX12_put 29 = .ok (.iload_n 2, 1) := by decide +kernel
theorem dX12_put_30 : decode cX12_put 30 = .ok (.ishr, 1) := by decide +kernel
theorem dX12_put_31 : decode cX12_put 31 = .ok (.i2b, 1) := by decide +kernel
theorem dX12_put_32 : decode cX12_put 32 = .ok (.bastore, 1) := by decide +kernel
theorem dX12_put_33 : decode cX12_put 33 = .ok (.aload_n 0, 1) := by decide +kernel
theorem dX12_put_34 : decode cX12_put 34 = .ok (.dup, 1) := by decide +kernel
theorem dX12_put_35 : decode cX12_put 35 = .ok (.getfield 178, 3) := by decide +kernel
theorem dX12_put_38 : decode cX12_put 38 = .ok (.iconst 1, 1) := by decide +kernel
theorem dX12_put_39 : decode cX12_put 39 = .ok (.iadd, 1) := by decide +kernel
theorem dX12_put_40 : decode cX12_put 40 = .ok (.putfield 178, 3) := by decide +kernel
theorem dX12_put_43 : decode cX12_put 43 = .ok (.iinc 2 (-8), 3) := by decide +kernel
theorem dX12_put_46 : decode cX12_put 46 = .ok (.goto (-43), 3) := by decide +kernel
theorem dX12_put_49 : decode cX12_put 49 = .ok (.return_, 1) := by decide +kernel
theorem dX12_question_0 : decode cX12_question 0 = .ok (.aload_n 0, 1) := by decide +kernel
theorem dX12_question_1 : decode cX12_question 1 = .ok (.iconst 0, 1) := by decide +kernel
theorem dX12_question_2 : decode cX12_question 2 = .ok (.putfield 138, 3) := by decide +kernel
theorem dX12_question_5 : decode cX12_question 5 = .ok (.aload_n 0, 1) := by decide +kernel
theorem dX12_question_6 : decode cX12_question 6 = .ok (.getfield 393, 3) := by decide +kernel
theorem dX12_question_9 : decode cX12_question 9 = .ok (.bipush 8, 2) := by decide +kernel
theorem dX12_question_11 : decode cX12_question 11 = .ok (.if_icmp .eq 24, 3) := by decide +kernel
theorem dX12_question_14 : decode cX12_question 14 = .ok (.iload_n 1, 1) := by decide +kernel
theorem dX12_question_15 : decode cX12_question 15 = .ok (.iconst 1, 1) := by decide +kernel
theorem dX12_question_16 : decode cX12_question 16 = .ok (.bipush 50, 2) := by decide +kernel
theorem dX12_question_18 : decode cX12_question 18 = .ok (.invokestatic 145, 3) := by decide +kernel
theorem dX12_question_21 : decode cX12_question 21 = .ok (.ifCond .eq 14, 3) := by decide +kernel
theorem dX12_question_24 : decode cX12_question 24 = .ok (.iload_n 2, 1) := by decide +kernel
theorem dX12_question_25 : decode cX12_question 25 = .ok (.iconst 0, 1) := by decide +kernel
theorem dX12_question_26 : decode cX12_question 26 = .ok (.sipush 1023, 3) := by decide +kernel
theorem dX12_question_29 : decode cX12_question 29 = .ok (.invokestatic 145, 3) := by decide +kernel
theorem dX12_question_32 : decode cX12_question 32 = .ok (.ifCond .ne 5, 3) := by decide +kernel
theorem dX12_question_35 : decode cX12_question 35 = .ok (.iconst (-1), 1) := by decide +kernel
theorem dX12_question_36 : decode cX12_question 36 = .ok (.ireturn, 1) := by decide +kernel
theorem dX12_question_37 : decode cX12_question 37 = .ok (.aload_n 0, 1) := by decide +kernel
theorem dX12_question_38 : decode cX12_question 38 = .ok (.getfield 129, 3) := by decide +kernel
theorem dX12_question_41 : decode cX12_question 41 = .ok (.aload_n 0, 1) := by decide +kernel
theorem dX12_question_42 : decode cX12_question 42 = .ok (.getfield 393, 3) := by decide +kernel
theorem dX12_question_45 : decode cX12_question 45 = .ok (.iload_n 1, 1) := by decide +kernel
theorem dX12_question_46 : decode cX12_question 46 = .ok (.iastore, 1) := by decide +kernel
theorem dX12_question_47 : decode cX12_question 47 = .ok (.aload_n 0, 1) := by decide +kernel
theorem dX12_question_48 : decode cX12_question 48 = .ok (.getfield 132, 3) := by decide +kernel
theorem dX12_question_51 : decode cX12_question 51 = .ok (.aload_n 0, 1) := by decide +kernel
theorem dX12_question_52 : decode cX12_question 52 = .ok (.getfield 393, 3) := by decide +kernel
theorem dX12_question_55 : decode cX12_question 55 = .ok (.iload_n 2, 1) := by decide +kernel
theorem dX12_question_56 : decode cX12_question 56 = .ok (.iastore, 1) := by decide +kernel
theorem dX12_question_57 : decode cX12_question 57 = .ok (.aload_n 0, 1) := by decide +kernel
theorem dX12_question_58 : decode cX12_question 58 = .ok (.dup, 1) := by decide +kernel
theorem dX12_question_59 : decode cX12_question 59 = .ok (.getfield 393, 3) := by decide +kernel
theorem dX12_question_62 : decode cX12_question 62 = .ok (.iconst 1, 1) := by decide +kernel
theorem dX12_question_63 : decode cX12_question 63 = .ok (.iadd, 1) := by decide +kernel
theorem dX12_question_64 : decode cX12_question 64 = .ok (.putfield 393, 3) := by decide +kernel
theorem dX12_question_67 : decode cX12_question 67 = .ok (.aload_n 0, 1) := by decide +kernel
theorem dX12_question_68 : decode cX12_question 68 = .ok (.getfield 393, 3) := by decide +kernel
theorem dX12_question_71 : decode cX12_question 71 = .ok (.iconst 1, 1) := by decide +kernel
theorem dX12_question_72 : decode cX12_question 72 = .ok (.isub, 1) := by decide +kernel
theorem dX12_question_73 : decode cX12_question 73 = .ok (.ireturn, 1) := by decide +kernel
theorem dX12_ruleOn_0 : decode cX12_ruleOn 0 = .ok (.iconst (-1), 1) := by decide +kernel
theorem dX12_ruleOn_1 : decode cX12_ruleOn 1 = .ok (.istore_n 3, 1) := by decide +kernel
theorem dX12_ruleOn_2 : decode cX12_ruleOn 2 = .ok (.iconst 0, 1) := by decide +kernel
theorem dX12_ruleOn_3 : decode cX12_ruleOn 3 = .ok (.istore 4, 2) := by decide +kernel
theorem dX12_ruleOn_5 : decode cX12_ruleOn 5 = .ok (.iload 4, 2) := by decide +kernel
theorem dX12_ruleOn_7 : decode cX12_ruleOn 7 = .ok (.aload_n 0, 1) := by decide +kernel
theorem dX12_ruleOn_8 : decode cX12_ruleOn 8 = .ok (.getfield 289, 3) := by decide +kernel
theorem dX12_ruleOn_11 : decode cX12_ruleOn 11 = .ok (.if_icmp .ge 55, 3) := by decide +kernel
theorem dX12_ruleOn_14 : decode cX12_ruleOn 14 = .ok (.aload_n 0, 1) := by decide +kernel
theorem dX12_ruleOn_15 : decode cX12_ruleOn 15 = .ok (.getfield 62, 3) := by decide +kernel
theorem dX12_ruleOn_18 : decode cX12_ruleOn 18 = .ok (.iload 4, 2) := by decide +kernel
theorem dX12_ruleOn_20 : decode cX12_ruleOn 20 = .ok (.iaload, 1) := by decide +kernel
theorem dX12_ruleOn_21 : decode cX12_ruleOn 21 = .ok (.iload_n 2, 1) := by decide +kernel
theorem dX12_ruleOn_22 : decode cX12_ruleOn 22 = .ok (.if_icmp .gt 38, 3) := by decide +kernel
theorem dX12_ruleOn_25 : decode cX12_ruleOn 25 = .ok (.aload_n 0, 1) := by decide +kernel
theorem dX12_ruleOn_26 : decode cX12_ruleOn 26 = .ok (.getfield 59, 3) := by decide +kernel
theorem dX12_ruleOn_29 : decode cX12_ruleOn 29 = .ok (.iload 4, 2) := by decide +kernel
theorem dX12_ruleOn_31 : decode cX12_ruleOn 31 = .ok (.iaload, 1) := by decide +kernel
theorem dX12_ruleOn_32 : decode cX12_ruleOn 32 = .ok (.iload_n 1, 1) := by decide +kernel
theorem dX12_ruleOn_33 : decode cX12_ruleOn 33 = .ok (.if_icmp .gt 27, 3) := by decide +kernel
theorem dX12_ruleOn_36 : decode cX12_ruleOn 36 = .ok (.iload_n 3, 1) := by decide +kernel
theorem dX12_ruleOn_37 : decode cX12_ruleOn 37 = .ok (.iconst (-1), 1) := by decide +kernel
theorem dX12_ruleOn_38 : decode cX12_ruleOn 38 = .ok (.if_icmp .eq 19, 3) := by decide +kernel
theorem dX12_ruleOn_41 : decode cX12_ruleOn 41 = .ok (.aload_n 0, 1) := by decide +kernel
theorem dX12_ruleOn_42 : decode cX12_ruleOn 42 = .ok (.getfield 59, 3) := by decide +kernel
theorem dX12_ruleOn_45 : decode cX12_ruleOn 45 = .ok (.iload 4, 2) := by decide +kernel
theorem dX12_ruleOn_47 : decode cX12_ruleOn 47 = .ok (.iaload, 1) := by decide +kernel
theorem dX12_ruleOn_48 : decode cX12_ruleOn 48 = .ok (.aload_n 0, 1) := by decide +kernel
theorem dX12_ruleOn_49 : decode cX12_ruleOn 49 = .ok (.getfield 59, 3) := by decide +kernel
theorem dX12_ruleOn_52 : decode cX12_ruleOn 52 = .ok (.iload_n 3, 1) := by decide +kernel
theorem dX12_ruleOn_53 : decode cX12_ruleOn 53 = .ok (.iaload, 1) := by decide +kernel
theorem dX12_ruleOn_54 : decode cX12_ruleOn 54 = .ok (.if_icmp .lt 6, 3) := by decide +kernel
theorem dX12_ruleOn_57 : decode cX12_ruleOn 57 = .ok (.iload 4, 2) := by decide +kernel
theorem dX12_ruleOn_59 : decode cX12_ruleOn 59 = .ok (.istore_n 3, 1) := by decide +kernel
theorem dX12_ruleOn_60 : decode cX12_ruleOn 60 = .ok (.iinc 4 1, 3) := by decide +kernel
theorem dX12_ruleOn_63 : decode cX12_ruleOn 63 = .ok (.goto (-58), 3) := by decide +kernel
theorem dX12_ruleOn_66 : decode cX12_ruleOn 66 = .ok (.iload_n 3, 1) := by decide +kernel
theorem dX12_ruleOn_67 : decode cX12_ruleOn 67 = .ok (.ireturn, 1) := by decide +kernel
theorem dX12_sortsOf_0 : decode cX12_sortsOf 0 = .ok (.iconst 0, 1) := by decide +kernel
theorem dX12_sortsOf_1 : decode cX12_sortsOf 1 = .ok (.istore_n 2, 1) := by decide +kernel
theorem dX12_sortsOf_2 : decode cX12_sortsOf 2 = .ok (.iconst 0, 1) := by decide +kernel
theorem dX12_sortsOf_3 : decode cX12_sortsOf 3 = .ok (.istore_n 3, 1) := by decide +kernel
theorem dX12_sortsOf_4 : decode cX12_sortsOf 4 = .ok (.iload_n 3, 1) := by decide +kernel
theorem dX12_sortsOf_5 : decode cX12_sortsOf 5 = .ok (.aload_n 0, 1) := by decide +kernel
theorem dX12_sortsOf_6 : decode cX12_sortsOf 6 = .ok (.getfield 393, 3) := by decide +kernel
theorem dX12_sortsOf_9 : decode cX12_sortsOf 9 = .ok (.if_icmp .ge 31, 3) := by decide +kernel
theorem dX12_sortsOf_12 : decode cX12_sortsOf 12 = .ok (.iload_n 2, 1) := by decide +kernel
theorem dX12_sortsOf_13 : decode cX12_sortsOf 13 = .ok (.iload_n 1, 1) := by decide +kernel
theorem dX12_sortsOf_14 : decode cX12_sortsOf 14 = .ok (.iload_n 3, 1) := by decide +kernel
theorem dX12_sortsOf_15 : decode cX12_sortsOf 15 = .ok (.ishr, 1) := by decide +kernel
theorem dX12_sortsOf_16 : decode cX12_sortsOf 16 = .ok (.iconst 1, 1) := by decide +kernel
theorem dX12_sortsOf_17 : decode cX12_sortsOf 17 = .ok (.iand, 1) := by decide +kernel
theorem dX12_sortsOf_18 : decode cX12_sortsOf 18 = .ok (.iconst 1, 1) := by decide +kernel
theorem dX12_sortsOf_19 : decode cX12_sortsOf 19 = .ok (.if_icmp .ne 12, 3) := by decide +kernel
theorem dX12_sortsOf_22 : decode cX12_sortsOf 22 = .ok (.aload_n 0, 1) := by decide +kernel
theorem dX12_sortsOf_23 : decode cX12_sortsOf 23 = .ok (.getfield 132, 3) := by decide +kernel
theorem dX12_sortsOf_26 : decode cX12_sortsOf 26 = .ok (.iload_n 3, 1) := by decide +kernel
theorem dX12_sortsOf_27 : decode cX12_sortsOf 27 = .ok (.iaload, 1) := by decide +kernel
theorem dX12_sortsOf_28 : decode cX12_sortsOf 28 = .ok (.goto 4, 3) := by decide +kernel
theorem dX12_sortsOf_31 : decode cX12_sortsOf 31 = .ok (.iconst 0, 1) := by decide +kernel
theorem dX12_sortsOf_32 : decode cX12_sortsOf 32 = .ok (.ior, 1) := by decide +kernel
theorem dX12_sortsOf_33 : decode cX12_sortsOf 33 = .ok (.istore_n 2, 1) := by decide +kernel
theorem dX12_sortsOf_34 : decode cX12_sortsOf 34 = .ok (.iinc 3 1, 3) := by decide +kernel
theorem dX12_sortsOf_37 : decode cX12_sortsOf 37 = .ok (.goto (-33), 3) := by decide +kernel
theorem dX12_sortsOf_40 : decode cX12_sortsOf 40 = .ok (.iload_n 2, 1) := by decide +kernel
theorem dX12_sortsOf_41 : decode cX12_sortsOf 41 = .ok (.invokestatic 388, 3) := by decide +kernel
theorem dX12_sortsOf_44 : decode cX12_sortsOf 44 = .ok (.ireturn, 1) := by decide +kernel
theorem dX12_stop_0 : decode cX12_stop 0 = .ok (.aload_n 0, 1) := by decide +kernel
theorem dX12_stop_1 : decode cX12_stop 1 = .ok (.iconst 0, 1) := by decide +kernel
theorem dX12_stop_2 : decode cX12_stop 2 = .ok (.putfield 138, 3) := by decide +kernel
theorem dX12_stop_5 : decode cX12_stop 5 = .ok (.aload_n 0, 1) := by decide +kernel
theorem dX12_stop_6 : decode cX12_stop 6 = .ok (.getfield 162, 3) := by decide +kernel
theorem dX12_stop_9 : decode cX12_stop 9 = .ok (.bipush 60, 2) := by decide +kernel
theorem dX12_stop_11 : decode cX12_stop 11 = .ok (.if_icmp .eq 18, 3) := by decide +kernel
theorem dX12_stop_14 : decode cX12_stop 14 = .ok (.aload_n 0, 1) := by decide +kernel
theorem dX12_stop_15 : decode cX12_stop 15 = .ok (.iload_n 1, 1) := by decide +kernel
theorem dX12_stop_16 : decode cX12_stop 16 = .ok (.invokevirtual 165, 3) := by decide +kernel
theorem dX12_stop_19 : decode cX12_stop 19 = .ok (.ifCond .eq 10, 3) := by decide +kernel
theorem dX12_stop_22 : decode cX12_stop 22 = .ok (.iload_n 2, 1) := by decide +kernel
theorem dX12_stop_23 : decode cX12_stop 23 = .ok (.invokestatic 175, 3) := by decide +kernel
theorem dX12_stop_26 : decode cX12_stop 26 = .ok (.ifCond .ne 5, 3) := by decide +kernel
theorem dX12_stop_29 : decode cX12_stop 29 = .ok (.iconst 0, 1) := by decide +kernel
theorem dX12_stop_30 : decode cX12_stop 30 = .ok (.ireturn, 1) := by decide +kernel
theorem dX12_stop_31 : decode cX12_stop 31 = .ok (.aload_n 0, 1) := by decide +kernel
theorem dX12_stop_32 : decode cX12_stop 32 = .ok (.getfield 19, 3) := by decide +kernel
theorem dX12_stop_35 : decode cX12_stop 35 = .ok (.aload_n 0, 1) := by decide +kernel
theorem dX12_stop_36 : decode cX12_stop 36 = .ok (.getfield 162, 3) := by decide +kernel
theorem dX12_stop_39 : decode cX12_stop 39 = .ok (.iload_n 1, 1) := by decide +kernel
theorem dX12_stop_40 : decode cX12_stop 40 = .ok (.iastore, 1) := by decide +kernel
theorem dX12_stop_41 : decode cX12_stop 41 = .ok (.aload_n 0, 1) := by decide +kernel
theorem dX12_stop_42 : decode cX12_stop 42 = .ok (.getfield 22, 3) := by decide +kernel
theorem dX12_stop_45 : decode cX12_stop 45 = .ok (.aload_n 0, 1) := by decide +kernel
theorem dX12_stop_46 : decode cX12_stop 46 = .ok (.getfield 162, 3) := by decide +kernel
theorem dX12_stop_49 : decode cX12_stop 49 = .ok (.iload_n 2, 1) := by decide +kernel
theorem dX12_stop_50 : decode cX12_stop 50 = .ok (.iastore, 1) := by decide +kernel
theorem dX12_stop_51 : decode cX12_stop 51 = .ok (.aload_n 0, 1) := by decide +kernel
theorem dX12_stop_52 : decode cX12_stop 52 = .ok (.getfield 25, 3) := by decide +kernel
theorem dX12_stop_55 : decode cX12_stop 55 = .ok (.aload_n 0, 1) := by decide +kernel
theorem dX12_stop_56 : decode cX12_stop 56 = .ok (.getfield 162, 3) := by decide +kernel
theorem dX12_stop_59 : decode cX12_stop 59 = .ok (.aload_n 0, 1) := by decide +kernel
theorem dX12_stop_60 : decode cX12_stop 60 = .ok (.getfield 142, 3) := by decide +kernel
theorem dX12_stop_63 : decode cX12_stop 63 = .ok (.iastore, 1) := by decide +kernel
theorem dX12_stop_64 : decode cX12_stop 64 = .ok (.aload_n 0, 1) := by decide +kernel
theorem dX12_stop_65 : decode cX12_stop 65 = .ok (.dup, 1) := by decide +kernel
theorem dX12_stop_66 : decode cX12_stop 66 = .ok (.getfield 162, 3) := by decide +kernel
theorem dX12_stop_69 : decode cX12_stop 69 = .ok (.iconst 1, 1) := by decide +kernel
theorem dX12_stop_70 : decode cX12_stop 70 = .ok (.iadd, 1) := by decide +kernel
theorem dX12_stop_71 : decode cX12_stop 71 = .ok (.putfield 162, 3) := by decide +kernel
theorem dX12_stop_74 : decode cX12_stop 74 = .ok (.iconst 1, 1) := by decide +kernel
theorem dX12_stop_75 : decode cX12_stop 75 = .ok (.ireturn, 1) := by decide +kernel
theorem dX12_stopped_0 : decode cX12_stopped 0 = .ok (.aload_n 0, 1) := by decide +kernel
theorem dX12_stopped_1 : decode cX12_stopped 1 = .ok (.iconst 0, 1) := by decide +kernel
theorem dX12_stopped_2 : decode cX12_stopped 2 = .ok (.putfield 138, 3) := by decide +kernel
theorem dX12_stopped_5 : decode cX12_stopped 5 = .ok (.aload_n 0, 1) := by decide +kernel
theorem dX12_stopped_6 : decode cX12_stopped 6 = .ok (.iload_n 1, 1) := by decide +kernel
theorem dX12_stopped_7 : decode cX12_stopped 7 = .ok (.invokevirtual 165, 3) := by decide +kernel
theorem dX12_stopped_10 : decode cX12_stopped 10 = .ok (.ifCond .eq 20, 3) := by decide +kernel
theorem dX12_stopped_13 : decode cX12_stopped 13 = .ok (.aload_n 0, 1) := by decide +kernel
theorem dX12_stopped_14 : decode cX12_stopped 14 = .ok (.iload_n 2, 1) := by decide +kernel
theorem dX12_stopped_15 : decode cX12_stopped 15 = .ok (.invokevirtual 159, 3) := by decide +kernel
theorem dX12_stopped_18 : decode cX12_stopped 18 = .ok (.ifCond .eq 12, 3) := by decide +kernel
theorem dX12_stopped_21 : decode cX12_stopped 21 = .ok (.aload_n 0, 1) := by decide +kernel
theorem dX12_stopped_22 : decode cX12_stopped 22 = .ok (.iload_n 1, 1) := by decide +kernel
theorem dX12_stopped_23 : decode cX12_stopped 23 = .ok (.iload_n 2, 1) := by decide +kernel
theorem dX12_stopped_24 : decode cX12_stopped 24 = .ok (.invokevirtual 171, 3) := by decide +kernel
theorem dX12_stopped_27 : decode cX12_stopped 27 = .ok (.goto 4, 3) := by decide +kernel
theorem dX12_stopped_30 : decode cX12_stopped 30 = .ok (.iconst (-1), 1) := by decide +kernel
theorem dX12_stopped_31 : decode cX12_stopped 31 = .ok (.ireturn, 1) := by decide +kernel
theorem dX12_stopsFrom_0 : decode cX12_stopsFrom 0 = .ok (.iconst (-1), 1) := by decide +kernel
theorem dX12_stopsFrom_1 : decode cX12_stopsFrom 1 = .ok (.istore_n 3, 1) := by decide +kernel
theorem dX12_stopsFrom_2 : decode cX12_stopsFrom 2 = .ok (.iconst 0, 1) := by decide +kernel
theorem dX12_stopsFrom_3 : decode cX12_stopsFrom 3 = .ok (.istore 4, 2) := by decide +kernel
theorem dX12_stopsFrom_5 : decode cX12_stopsFrom 5 = .ok (.iload 4, 2) := by decide +kernel
theorem dX12_stopsFrom_7 : decode cX12_stopsFrom 7 = .ok (.aload_n 0, 1) := by decide +kernel
theorem dX12_stopsFrom_8 : decode cX12_stopsFrom 8 = .ok (.getfield 162, 3) := by decide +kernel
theorem dX12_stopsFrom_11 : decode cX12_stopsFrom 11 = .ok (.if_icmp .ge 39, 3) := by decide +kernel
theorem dX12_stopsFrom_14 : decode cX12_stopsFrom 14 = .ok (.aload_n 0, 1) := by decide +kernel
theorem dX12_stopsFrom_15 : decode cX12_stopsFrom 15 = .ok (.getfield 19, 3) := by decide +kernel
theorem dX12_stopsFrom_18 : decode cX12_stopsFrom 18 = .ok (.iload 4, 2) := by decide +kernel
theorem dX12_stopsFrom_20 : decode cX12_stopsFrom 20 = .ok (.iaload, 1) := by decide +kernel
theorem dX12_stopsFrom_21 : decode cX12_stopsFrom 21 = .ok (.iload_n 1, 1) := by decide +kernel
theorem dX12_stopsFrom_22 : decode cX12_stopsFrom 22 = .ok (.if_icmp .ne 22, 3) := by decide +kernel
theorem dX12_stopsFrom_25 : decode cX12_stopsFrom 25 = .ok (.aload_n 0, 1) := by decide +kernel
theorem dX12_stopsFrom_26 : decode cX12_stopsFrom 26 = .ok (.getfield 25, 3) := by decide +kernel
theorem dX12_stopsFrom_29 : decode cX12_stopsFrom 29 = .ok (.iload 4, 2) := by decide +kernel
theorem dX12_stopsFrom_31 : decode cX12_stopsFrom 31 = .ok (.iaload, 1) := by decide +kernel
theorem dX12_stopsFrom_32 : decode cX12_stopsFrom 32 = .ok (.iload_n 2, 1) := by decide +kernel
theorem dX12_stopsFrom_33 : decode cX12_stopsFrom 33 = .ok (.if_icmp .gt 11, 3) := by decide +kernel
theorem dX12_stopsFrom_36 : decode cX12_stopsFrom 36 = .ok (.aload_n 0, 1) := by decide +kernel
theorem dX12_stopsFrom_37 : decode cX12_stopsFrom 37 = .ok (.getfield 22, 3) := by decide +kernel
theorem dX12_stopsFrom_40 : decode cX12_stopsFrom 40 = .ok (.iload 4, 2) := by decide +kernel
theorem dX12_stopsFrom_42 : decode cX12_stopsFrom 42 = .ok (.iaload, 1) := by decide +kernel
theorem dX12_stopsFrom_43 : decode cX12_stopsFrom 43 = .ok (.istore_n 3, 1) := by decide +kernel
theorem dX12_stopsFrom_44 : decode cX12_stopsFrom 44 = .ok (.iinc 4 1, 3) := by decide +kernel
theorem dX12_stopsFrom_47 : decode cX12_stopsFrom 47 = .ok (.goto (-42), 3) := by decide +kernel
theorem dX12_stopsFrom_50 : decode cX12_stopsFrom 50 = .ok (.iload_n 3, 1) := by decide +kernel
theorem dX12_stopsFrom_51 : decode cX12_stopsFrom 51 = .ok (.ireturn, 1) := by decide +kernel
theorem dX12_stratum_0 : decode cX12_stratum 0 = .ok (.aload_n 0, 1) := by decide +kernel
theorem dX12_stratum_1 : decode cX12_stratum 1 = .ok (.getfield 13, 3) := by decide +kernel
theorem dX12_stratum_4 : decode cX12_stratum 4 = .ok (.iload_n 1, 1) := by decide +kernel
theorem dX12_stratum_5 : decode cX12_stratum 5 = .ok (.iaload, 1) := by decide +kernel
theorem dX12_stratum_6 : decode cX12_stratum 6 = .ok (.bipush 25, 2) := by decide +kernel
theorem dX12_stratum_8 : decode cX12_stratum 8 = .ok (.if_icmp .ge 7, 3) := by decide +kernel
theorem dX12_stratum_11 : decode cX12_stratum 11 = .ok (.iconst 0, 1) := by decide +kernel
theorem dX12_stratum_12 : decode cX12_stratum 12 = .ok (.goto 34, 3) := by decide +kernel
theorem dX12_stratum_15 : decode cX12_stratum 15 = .ok (.aload_n 0, 1) := by decide +kernel
theorem dX12_stratum_16 : decode cX12_stratum 16 = .ok (.getfield 13, 3) := by decide +kernel
theorem dX12_stratum_19 : decode cX12_stratum 19 = .ok (.iload_n 1, 1) := by decide +kernel
theorem dX12_stratum_20 : decode cX12_stratum 20 = .ok (.iaload, 1) := by decide +kernel
theorem dX12_stratum_21 : decode cX12_stratum 21 = .ok (.bipush 45, 2) := by decide +kernel
theorem dX12_stratum_23 : decode cX12_stratum 23 = .ok (.if_icmp .ge 7, 3) := by decide +kernel
theorem dX12_stratum_26 : decode cX12_stratum 26 = .ok (.iconst 1, 1) := by decide +kernel
theorem dX12_stratum_27 : decode cX12_stratum 27 = .ok (.goto 19, 3) := by decide +kernel
theorem dX12_stratum_30 : decode cX12_stratum 30 = .ok (.aload_n 0, 1) := by decide +kernel
theorem dX12_stratum_31 : decode cX12_stratum 31 = .ok (.getfield 13, 3) := by decide +kernel
theorem dX12_stratum_34 : decode cX12_stratum 34 = .ok (.iload_n 1, 1) := by decide +kernel
theorem dX12_stratum_35 : decode cX12_stratum 35 = .ok (.iaload, 1) := by decide +kernel
theorem dX12_stratum_36 : decode cX12_stratum 36 = .ok (.bipush 65, 2) := by decide +kernel
theorem dX12_stratum_38 : decode cX12_stratum 38 = .ok (.if_icmp .ge 7, 3) := by decide +kernel
theorem dX12_stratum_41 : decode cX12_stratum 41 = .ok (.iconst 2, 1) := by decide +kernel
theorem dX12_stratum_42 : decode cX12_stratum 42 = .ok (.goto 4, 3) := by decide +kernel
theorem dX12_stratum_45 : decode cX12_stratum 45 = .ok (.iconst 3, 1) := by decide +kernel
theorem dX12_stratum_46 : decode cX12_stratum 46 = .ok (.ireturn, 1) := by decide +kernel
theorem dX12_table_0 : decode cX12_table 0 = .ok (.aload_n 0, 1) := by decide +kernel
theorem dX12_table_1 : decode cX12_table 1 = .ok (.iconst 0, 1) := by decide +kernel
theorem dX12_table_2 : decode cX12_table 2 = .ok (.putfield 138, 3) := by decide +kernel
theorem dX12_table_5 : decode cX12_table 5 = .ok (.iload_n 1, 1) := by decide +kernel
theorem dX12_table_6 : decode cX12_table 6 = .ok (.iconst (-1), 1) := by decide +kernel
theorem dX12_table_7 : decode cX12_table 7 = .ok (.aload_n 0, 1) := by decide +kernel
theorem dX12_table_8 : decode cX12_table 8 = .ok (.getfield 372, 3) := by decide +kernel
theorem dX12_table_11 : decode cX12_table 11 = .ok (.iconst 1, 1) := by decide +kernel
theorem dX12_table_12 : decode cX12_table 12 = .ok (.isub, 1) := by decide +kernel
theorem dX12_table_13 : decode cX12_table 13 = .ok (.invokestatic 145, 3) := by decide +kernel
theorem dX12_table_16 : decode cX12_table 16 = .ok (.ifCond .ne 6, 3) := by decide +kernel
theorem dX12_table_19 : decode cX12_table 19 = .ok (.bipush (-2), 2) := by decide +kernel
theorem dX12_table_21 : decode cX12_table 21 = .ok (.ireturn, 1) := by decide +kernel
theorem dX12_table_22 : decode cX12_table 22 = .ok (.aload_n 0, 1) := by decide +kernel
theorem dX12_table_23 : decode cX12_table 23 = .ok (.iconst (-1), 1) := by decide +kernel
theorem dX12_table_24 : decode cX12_table 24 = .ok (.putfield 375, 3) := by decide +kernel
theorem dX12_table_27 : decode cX12_table 27 = .ok (.aload_n 0, 1) := by decide +kernel
theorem dX12_table_28 : decode cX12_table 28 = .ok (.iconst 0, 1) := by decide +kernel
theorem dX12_table_29 : decode cX12_table 29 = .ok (.iconst 0, 1) := by decide +kernel
theorem dX12_table_30 : decode cX12_table 30 = .ok (.invokevirtual 381, 3) := by decide +kernel
theorem dX12_table_33 : decode cX12_table 33 = .ok (.iload_n 1, 1) := by decide +kernel
theorem dX12_table_34 : decode cX12_table 34 = .ok (.iconst (-1), 1) := by decide +kernel
theorem dX12_table_35 : decode cX12_table 35 = .ok (.if_icmp .ne 10, 3) := by decide +kernel
theorem dX12_table_38 : decode cX12_table 38 = .ok (.aload_n 0, 1) := by decide +kernel
theorem dX12_table_39 : decode cX12_table 39 = .ok (.getfield 375, 3) := by decide +kernel
theorem dX12_table_42 : decode cX12_table 42 = .ok (.goto 9, 3) := by decide +kernel
theorem dX12_table_45 : decode cX12_table 45 = .ok (.aload_n 0, 1) := by decide +kernel
theorem dX12_table_46 : decode cX12_table 46 = .ok (.getfield 126, 3) := by decide +kernel
theorem dX12_table_49 : decode cX12_table 49 = .ok (.iload_n 1, 1) := by decide +kernel
theorem dX12_table_50 : decode cX12_table 50 = .ok (.iaload, 1) := by decide +kernel
theorem dX12_table_51 : decode cX12_table 51 = .ok (.ireturn, 1) := by decide +kernel
theorem dX12_thrown_0 : decode cX12_thrown 0 = .ok (.aload_n 0, 1) := by decide +kernel
theorem dX12_thrown_1 : decode cX12_thrown 1 = .ok (.getfield 138, 3) := by decide +kernel
theorem dX12_thrown_4 : decode cX12_thrown 4 = .ok (.ireturn, 1) := by decide +kernel
theorem dX12_told_0 : decode cX12_told 0 = .ok (.aload_n 0, 1) := by decide +kernel
theorem dX12_told_1 : decode cX12_told 1 = .ok (.aload_n 0, 1) := by decide +kernel
theorem dX12_told_2 : decode cX12_told 2 = .ok (.iload_n 1, 1) := by decide +kernel
theorem dX12_told_3 : decode cX12_told 3 = .ok (.invokevirtual 155, 3) := by decide +kernel
theorem dX12_told_6 : decode cX12_told 6 = .ok (.ifCond .eq 17, 3) := by decide +kernel
theorem dX12_told_9 : decode cX12_told 9 = .ok (.iload_n 2, 1) := by decide +kernel
theorem dX12_told_10 : decode cX12_told 10 = .ok (.iconst 0, 1) := by decide +kernel
theorem dX12_told_11 : decode cX12_told 11 = .ok (.bipush 6, 2) := by decide +kernel
theorem dX12_told_13 : decode cX12_told 13 = .ok (.invokestatic 145, 3) := by decide +kernel
theorem dX12_told_16 : decode cX12_told 16 = .ok (.ifCond .eq 7, 3) := by decide +kernel
theorem dX12_told_19 : decode cX12_told 19 = .ok (.iconst 0, 1) := by decide +kernel
theorem dX12_told_20 : decode cX12_told 20 = .ok (.goto 4, 3) := by decide +kernel
theorem dX12_told_23 : decode cX12_told 23 = .ok (.iconst 1, 1) := by decide +kernel
theorem dX12_told_24 : decode cX12_told 24 = .ok (.putfield 138, 3) := by decide +kernel
theorem dX12_told_27 : decode cX12_told 27 = .ok (.aload_n 0, 1) := by decide +kernel
theorem dX12_told_28 : decode cX12_told 28 = .ok (.getfield 138, 3) := by decide +kernel
theorem dX12_told_31 : decode cX12_told 31 = .ok (.ifCond .le 5, 3) := by decide +kernel
theorem dX12_told_34 : decode cX12_told 34 = .ok (.iconst 0, 1) := by decide +kernel
theorem dX12_told_35 : decode cX12_told 35 = .ok (.ireturn, 1) := by decide +kernel
theorem dX12_told_36 : decode cX12_told 36 = .ok (.iload_n 2, 1) := by decide +kernel
theorem dX12_told_37 : decode cX12_told 37 = .ok (.tableswitch 81 0 5 #[39, 46, 53, 60, 67, 74], 39) := by decide +kernel
theorem dX12_told_76 : decode cX12_told 76 = .ok (.aload_n 0, 1) := by decide +kernel
theorem dX12_told_77 : decode cX12_told 77 = .ok (.getfield 28, 3) := by decide +kernel
theorem dX12_told_80 : decode cX12_told 80 = .ok (.iload_n 1, 1) := by decide +kernel
theorem dX12_told_81 : decode cX12_told 81 = .ok (.iaload, 1) := by decide +kernel
theorem dX12_told_82 : decode cX12_told 82 = .ok (.ireturn, 1) := by decide +kernel
theorem dX12_told_83 : decode cX12_told 83 = .ok (.aload_n 0, 1) := by decide +kernel
theorem dX12_told_84 : decode cX12_told 84 = .ok (.getfield 31, 3) := by decide +kernel
theorem dX12_told_87 : decode cX12_told 87 = .ok (.iload_n 1, 1) := by decide +kernel
theorem dX12_told_88 : decode cX12_told 88 = .ok (.iaload, 1) := by decide +kernel
theorem dX12_told_89 : decode cX12_told 89 = .ok (.ireturn, 1) := by decide +kernel
theorem dX12_told_90 : decode cX12_told 90 = .ok (.aload_n 0, 1) := by decide +kernel
theorem dX12_told_91 : decode cX12_told 91 = .ok (.getfield 34, 3) := by decide +kernel
theorem dX12_told_94 : decode cX12_told 94 = .ok (.iload_n 1, 1) := by decide +kernel
theorem dX12_told_95 : decode cX12_told 95 = .ok (.iaload, 1) := by decide +kernel
theorem dX12_told_96 : decode cX12_told 96 = .ok (.ireturn, 1) := by decide +kernel
theorem dX12_told_97 : decode cX12_told 97 = .ok (.aload_n 0, 1) := by decide +kernel
theorem dX12_told_98 : decode cX12_told 98 = .ok (.getfield 37, 3) := by decide +kernel
theorem dX12_told_101 : decode cX12_told 101 = .ok (.iload_n 1, 1) := by decide +kernel
theorem dX12_told_102 : decode cX12_told 102 = .ok (.iaload, 1) := by decide +kernel
theorem dX12_told_103 : decode cX12_told 103 = .ok (.ireturn, 1) := by decide +kernel
theorem dX12_told_104 : decode cX12_told 104 = .ok (.aload_n 0, 1) := by decide +kernel
theorem dX12_told_105 : decode cX12_told 105 = .ok (.getfield 40, 3) := by decide +kernel
theorem dX12_told_108 : decode cX12_told 108 = .ok (.iload_n 1, 1) := by decide +kernel
theorem dX12_told_109 : decode cX12_told 109 = .ok (.iaload, 1) := by decide +kernel
theorem dX12_told_110 : decode cX12_told 110 = .ok (.ireturn, 1) := by decide +kernel
theorem dX12_told_111 : decode cX12_told 111 = .ok (.aload_n 0, 1) := by decide +kernel
theorem dX12_told_112 : decode cX12_told 112 = .ok (.getfield 43, 3) := by decide +kernel
theorem dX12_told_115 : decode cX12_told 115 = .ok (.iload_n 1, 1) := by decide +kernel
theorem dX12_told_116 : decode cX12_told 116 = .ok (.iaload, 1) := by decide +kernel
theorem dX12_told_117 : decode cX12_told 117 = .ok (.ireturn, 1) := by decide +kernel
theorem dX12_told_118 : decode cX12_told 118 = .ok (.aload_n 0, 1) := by decide +kernel
theorem dX12_told_119 : decode cX12_told 119 = .ok (.getfield 46, 3) := by decide +kernel
theorem dX12_told_122 : decode cX12_told 122 = .ok (.iload_n 1, 1) := by decide +kernel
theorem dX12_told_123 : decode cX12_told 123 = .ok (.iaload, 1) := by decide +kernel
theorem dX12_told_124 : decode cX12_told 124 = .ok (.ireturn, 1) := by decide +kernel
theorem dX12_truth_0 : decode cX12_truth 0 = .ok (.aload_n 0, 1) := by decide +kernel
theorem dX12_truth_1 : decode cX12_truth 1 = .ok (.iconst 0, 1) := by decide +kernel
theorem dX12_truth_2 : decode cX12_truth 2 = .ok (.putfield 138, 3) := by decide +kernel
theorem dX12_truth_5 : decode cX12_truth 5 = .ok (.aload_n 0, 1) := by decide +kernel
theorem dX12_truth_6 : decode cX12_truth 6 = .ok (.iload_n 1, 1) := by decide +kernel
theorem dX12_truth_7 : decode cX12_truth 7 = .ok (.iload_n 2, 1) := by decide +kernel
theorem dX12_truth_8 : decode cX12_truth 8 = .ok (.invokevirtual 305, 3) := by decide +kernel
theorem dX12_truth_11 : decode cX12_truth 11 = .ok (.ifCond .ne 5, 3) := by decide +kernel
theorem dX12_truth_14 : decode cX12_truth 14 = .ok (.iconst (-1), 1) := by decide +kernel
theorem dX12_truth_15 : decode cX12_truth 15 = .ok (.ireturn, 1) := by decide +kernel
theorem dX12_truth_16 : decode cX12_truth 16 = .ok (.iconst 2, 1) := by decide +kernel
theorem dX12_truth_17 : decode cX12_truth 17 = .ok (.istore_n 3, 1) := by decide +kernel
theorem dX12_truth_18 : decode cX12_truth 18 = .ok (.iconst 0, 1) := by decide +kernel
theorem dX12_truth_19 : decode cX12_truth 19 = .ok (.istore 4, 2) := by decide +kernel
theorem dX12_truth_21 : decode cX12_truth 21 = .ok (.iload 4, 2) := by decide +kernel
theorem dX12_truth_23 : decode cX12_truth 23 = .ok (.aload_n 0, 1) := by decide +kernel
theorem dX12_truth_24 : decode cX12_truth 24 = .ok (.getfield 329, 3) := by decide +kernel
theorem dX12_truth_27 : decode cX12_truth 27 = .ok (.if_icmp .ge 89, 3) := by decide +kernel
theorem dX12_truth_30 : decode cX12_truth 30 = .ok (.aload_n 0, 1) := by decide +kernel
theorem dX12_truth_31 : decode cX12_truth 31 = .ok (.getfield 83, 3) := by decide +kernel
theorem dX12_truth_34 : decode cX12_truth 34 = .ok (.iload 4, 2) := by decide +kernel
theorem dX12_truth_36 : decode cX12_truth 36 = .ok (.iaload, 1) := by decide +kernel
theorem dX12_truth_37 : decode cX12_truth 37 = .ok (.iload_n 2, 1) := by decide +kernel
theorem dX12_truth_38 : decode cX12_truth 38 = .ok (.if_icmp .gt 72, 3) := by decide +kernel
theorem dX12_truth_41 : decode cX12_truth 41 = .ok (.aload_n 0, 1) := by decide +kernel
theorem dX12_truth_42 : decode cX12_truth 42 = .ok (.getfield 74, 3) := by decide +kernel
theorem dX12_truth_45 : decode cX12_truth 45 = .ok (.iload 4, 2) := by decide +kernel
theorem dX12_truth_47 : decode cX12_truth 47 = .ok (.iaload, 1) := by decide +kernel
theorem dX12_truth_48 : decode cX12_truth 48 = .ok (.aload_n 0, 1) := by decide +kernel
theorem dX12_truth_49 : decode cX12_truth 49 = .ok (.getfield 9, 3) := by decide +kernel
theorem dX12_truth_52 : decode cX12_truth 52 = .ok (.aload_n 0, 1) := by decide +kernel
theorem dX12_truth_53 : decode cX12_truth 53 = .ok (.getfield 28, 3) := by decide +kernel
theorem dX12_truth_56 : decode cX12_truth 56 = .ok (.iload_n 1, 1) := by decide +kernel
theorem dX12_truth_57 : decode cX12_truth 57 = .ok (.iaload, 1) := by decide +kernel
theorem dX12_truth_58 : decode cX12_truth 58 = .ok (.iaload, 1) := by decide +kernel
theorem dX12_truth_59 : decode cX12_truth 59 = .ok (.if_icmp .ne 51, 3) := by decide +kernel
theorem dX12_truth_62 : decode cX12_truth 62 = .ok (.aload_n 0, 1) := by decide +kernel
theorem dX12_truth_63 : decode cX12_truth 63 = .ok (.getfield 77, 3) := by decide +kernel
theorem dX12_truth_66 : decode cX12_truth 66 = .ok (.iload 4, 2) := by decide +kernel
theorem dX12_truth_68 : decode cX12_truth 68 = .ok (.iaload, 1) := by decide +kernel
theorem dX12_truth_69 : decode cX12_truth 69 = .ok (.aload_n 0, 1) := by decide +kernel
theorem dX12_truth_70 : decode cX12_truth 70 = .ok (.getfield 31, 3) := by decide +kernel
theorem dX12_truth_73 : decode cX12_truth 73 = .ok (.iload_n 1, 1) := by decide +kernel
theorem dX12_truth_74 : decode cX12_truth 74 = .ok (.iaload, 1) := by decide +kernel
theorem dX12_truth_75 : decode cX12_truth 75 = .ok (.if_icmp .ne 35, 3) := by decide +kernel
theorem dX12_truth_78 : decode cX12_truth 78 = .ok (.aload_n 0, 1) := by decide +kernel
theorem dX12_truth_79 : decode cX12_truth 79 = .ok (.getfield 80, 3) := by decide +kernel
theorem dX12_truth_82 : decode cX12_truth 82 = .ok (.iload 4, 2) := by decide +kernel
theorem dX12_truth_84 : decode cX12_truth 84 = .ok (.iaload, 1) := by decide +kernel
theorem dX12_truth_85 : decode cX12_truth 85 = .ok (.aload_n 0, 1) := by decide +kernel
theorem dX12_truth_86 : decode cX12_truth 86 = .ok (.getfield 34, 3) := by decide +kernel
theorem dX12_truth_89 : decode cX12_truth 89 = .ok (.iload_n 1, 1) := by decide +kernel
theorem dX12_truth_90 : decode cX12_truth 90 = .ok (.iaload, 1) := by decide +kernel
theorem dX12_truth_91 : decode cX12_truth 91 = .ok (.if_icmp .ne 19, 3) := by decide +kernel
theorem dX12_truth_94 : decode cX12_truth 94 = .ok (.aload_n 0, 1) := by decide +kernel
theorem dX12_truth_95 : decode cX12_truth 95 = .ok (.getfield 86, 3) := by decide +kernel
theorem dX12_truth_98 : decode cX12_truth 98 = .ok (.iload 4, 2) := by decide +kernel
theorem dX12_truth_100 : decode cX12_truth 100 = .ok (.baload, 1) := by decide +kernel
theorem dX12_truth_101 : decode cX12_truth 101 = .ok (.ifCond .eq 7, 3) := by decide +kernel
theorem dX12_truth_104 : decode cX12_truth 104 = .ok (.iconst 1, 1) := by decide +kernel
theorem dX12_truth_105 : decode cX12_truth 105 = .ok (.goto 4, 3) := by decide +kernel
theorem dX12_truth_108 : decode cX12_truth 108 = .ok (.iconst 0, 1) := by decide +kernel
theorem dX12_truth_109 : decode cX12_truth 109 = .ok (.istore_n 3, 1) := by decide +kernel
theorem dX12_truth_110 : decode cX12_truth 110 = .ok (.iinc 4 1, 3) := by decide +kernel
theorem dX12_truth_113 : decode cX12_truth 113 = .ok (.goto (-92), 3) := by decide +kernel
theorem dX12_truth_116 : decode cX12_truth 116 = .ok (.iload_n 3, 1) := by decide +kernel
theorem dX12_truth_117 : decode cX12_truth 117 = .ok (.ireturn, 1) := by decide +kernel
theorem dX12_tryTable_0 : decode cX12_tryTable 0 = .ok (.iload_n 2, 1) := by decide +kernel
theorem dX12_tryTable_1 : decode cX12_tryTable 1 = .ok (.aload_n 0, 1) := by decide +kernel
theorem dX12_tryTable_2 : decode cX12_tryTable 2 = .ok (.getfield 372, 3) := by decide +kernel
theorem dX12_tryTable_5 : decode cX12_tryTable 5 = .ok (.iadd, 1) := by decide +kernel
theorem dX12_tryTable_6 : decode cX12_tryTable 6 = .ok (.iload_n 1, 1) := by decide +kernel
theorem dX12_tryTable_7 : decode cX12_tryTable 7 = .ok (.isub, 1) := by decide +kernel
theorem dX12_tryTable_8 : decode cX12_tryTable 8 = .ok (.aload_n 0, 1) := by decide +kernel
theorem dX12_tryTable_9 : decode cX12_tryTable 9 = .ok (.getfield 375, 3) := by decide +kernel
theorem dX12_tryTable_12 : decode cX12_tryTable 12 = .ok (.if_icmp .gt 4, 3) := by decide +kernel
theorem dX12_tryTable_15 : decode cX12_tryTable 15 = .ok (.return_, 1) := by decide +kernel
theorem dX12_tryTable_16 : decode cX12_tryTable 16 = .ok (.iload_n 1, 1) := by decide +kernel
theorem dX12_tryTable_17 : decode cX12_tryTable 17 = .ok (.aload_n 0, 1) := by decide +kernel
theorem dX12_tryTable_18 : decode cX12_tryTable 18 = .ok (.getfield 372, 3) := by decide +kernel
theorem dX12_tryTable_21 : decode cX12_tryTable 21 = .ok (.if_icmp .ne 37, 3) := by decide +kernel
theorem dX12_tryTable_24 : decode cX12_tryTable 24 = .ok (.aload_n 0, 1) := by decide +kernel
theorem dX12_tryTable_25 : decode cX12_tryTable 25 = .ok (.iload_n 2, 1) := by decide +kernel
theorem dX12_tryTable_26 : decode cX12_tryTable 26 = .ok (.putfield 375, 3) := by decide +kernel
theorem dX12_tryTable_29 : decode cX12_tryTable 29 = .ok (.iconst 0, 1) := by decide +kernel
theorem dX12_tryTable_30 : decode cX12_tryTable 30 = .ok (.istore_n 3, 1) := by decide +kernel
theorem dX12_tryTable_31 : decode cX12_tryTable 31 = .ok (.iload_n 3, 1) := by decide +kernel
theorem dX12_tryTable_32 : decode cX12_tryTable 32 = .ok (.aload_n 0, 1) := by decide +kernel
theorem dX12_tryTable_33 : decode cX12_tryTable 33 = .ok (.getfield 372, 3) := by decide +kernel
theorem dX12_tryTable_36 : decode cX12_tryTable 36 = .ok (.if_icmp .ge 21, 3) := by decide +kernel
theorem dX12_tryTable_39 : decode cX12_tryTable 39 = .ok (.aload_n 0, 1) := by decide +kernel
theorem dX12_tryTable_40 : decode cX12_tryTable 40 = .ok (.getfield 126, 3) := by decide +kernel
theorem dX12_tryTable_43 : decode cX12_tryTable 43 = .ok (.iload_n 3, 1) := by decide +kernel
theorem dX12_tryTable_44 : decode cX12_tryTable 44 = .ok (.aload_n 0, 1) := by decide +kernel
theorem dX12_tryTable_45 : decode cX12_tryTable 45 = .ok (.getfield 123, 3) := by decide +kernel
theorem dX12_tryTable_48 : decode cX12_tryTable 48 = .ok (.iload_n 3, 1) := by decide +kernel
theorem dX12_tryTable_49 : decode cX12_tryTable 49 = .ok (.iaload, 1) := by decide +kernel
theorem dX12_tryTable_50 : decode cX12_tryTable 50 = .ok (.iastore, 1) := by decide +kernel
theorem dX12_tryTable_51 : decode cX12_tryTable 51 = .ok (.iinc 3 1, 3) := by decide +kernel
theorem dX12_tryTable_54 : decode cX12_tryTable 54 = .ok (.goto (-23), 3) := by decide +kernel
theorem dX12_tryTable_57 : decode cX12_tryTable 57 = .ok (.return_, 1) := by decide +kernel
theorem dX12_tryTable_58 : decode cX12_tryTable 58 = .ok (.iconst 0, 1) := by decide +kernel
theorem dX12_tryTable_59 : decode cX12_tryTable 59 = .ok (.istore_n 3, 1) := by decide +kernel
theorem dX12_tryTable_60 : decode cX12_tryTable 60 = .ok (.iload_n 3, 1) := by decide +kernel
theorem dX12_tryTable_61 : decode cX12_tryTable 61 = .ok (.aload_n 0, 1) := by decide +kernel
theorem dX12_tryTable_62 : decode cX12_tryTable 62 = .ok (.getfield 369, 3) := by decide +kernel
theorem dX12_tryTable_65 : decode cX12_tryTable 65 = .ok (.if_icmp .ge 38, 3) := by decide +kernel
theorem dX12_tryTable_68 : decode cX12_tryTable 68 = .ok (.aload_n 0, 1) := by decide +kernel
theorem dX12_tryTable_69 : decode cX12_tryTable 69 = .ok (.iload_n 3, 1) := by decide +kernel
theorem dX12_tryTable_70 : decode cX12_tryTable 70 = .ok (.iload_n 1, 1) := by decide +kernel
theorem dX12_tryTable_71 : decode cX12_tryTable 71 = .ok (.invokevirtual 378, 3) := by decide +kernel
theorem dX12_tryTable_74 : decode cX12_tryTable 74 = .ok (.ifCond .ne 6, 3) := by decide +kernel
theorem dX12_tryTable_77 : decode cX12_tryTable 77 = .ok (.goto 20, 3) := by decide +kernel
theorem dX12_tryTable_80 : decode cX12_tryTable 80 = .ok (.aload_n 0, 1) := by decide +kernel
theorem dX12_tryTable_81 : decode cX12_tryTable 81 = .ok (.getfield 123, 3) := by decide +kernel
theorem dX12_tryTable_84 : decode cX12_tryTable 84 = .ok (.iload_n 1, 1) := by decide +kernel
theorem dX12_tryTable_85 : decode cX12_tryTable 85 = .ok (.iload_n 3, 1) := by decide +kernel
theorem dX12_tryTable_86 : decode cX12_tryTable 86 = .ok (.iastore, 1) := by decide +kernel
theorem dX12_tryTable_87 : decode cX12_tryTable 87 = .ok (.aload_n 0, 1) := by decide +kernel
theorem dX12_tryTable_88 : decode cX12_tryTable 88 = .ok (.iload_n 1, 1) := by decide +kernel
theorem dX12_tryTable_89 : decode cX12_tryTable 89 = .ok (.iconst 1, 1) := by decide +kernel
theorem dX12_tryTable_90 : decode cX12_tryTable 90 = .ok (.iadd, 1) := by decide +kernel
theorem dX12_tryTable_91 : decode cX12_tryTable 91 = .ok (.iload_n 2, 1) := by decide +kernel
theorem dX12_tryTable_92 : decode cX12_tryTable 92 = .ok (.iconst 1, 1) := by decide +kernel
theorem dX12_tryTable_93 : decode cX12_tryTable 93 = .ok (.iadd, 1) := by decide +kernel
theorem dX12_tryTable_94 : decode cX12_tryTable 94 = .ok (.invokevirtual 381, 3) := by decide +kernel
theorem dX12_tryTable_97 : decode cX12_tryTable 97 = .ok (.iinc 3 1, 3) := by decide +kernel
theorem dX12_tryTable_100 : decode cX12_tryTable 100 = .ok (.goto (-40), 3) := by decide +kernel
theorem dX12_tryTable_103 : decode cX12_tryTable 103 = .ok (.aload_n 0, 1) := by decide +kernel
theorem dX12_tryTable_104 : decode cX12_tryTable 104 = .ok (.getfield 123, 3) := by decide +kernel
theorem dX12_tryTable_107 : decode cX12_tryTable 107 = .ok (.iload_n 1, 1) := by decide +kernel
theorem dX12_tryTable_108 : decode cX12_tryTable 108 = .ok (.iconst (-1), 1) := by decide +kernel
theorem dX12_tryTable_109 : decode cX12_tryTable 109 = .ok (.iastore, 1) := by decide +kernel
theorem dX12_tryTable_110 : decode cX12_tryTable 110 = .ok (.aload_n 0, 1) := by decide +kernel
theorem dX12_tryTable_111 : decode cX12_tryTable 111 = .ok (.iload_n 1, 1) := by decide +kernel
theorem dX12_tryTable_112 : decode cX12_tryTable 112 = .ok (.iconst 1, 1) := by decide +kernel
theorem dX12_tryTable_113 : decode cX12_tryTable 113 = .ok (.iadd, 1) := by decide +kernel
theorem dX12_tryTable_114 : decode cX12_tryTable 114 = .ok (.iload_n 2, 1) := by decide +kernel
theorem dX12_tryTable_115 : decode cX12_tryTable 115 = .ok (.invokevirtual 381, 3) := by decide +kernel
theorem dX12_tryTable_118 : decode cX12_tryTable 118 = .ok (.return_, 1) := by decide +kernel
theorem dX12_want_0 : decode cX12_want 0 = .ok (.aload_n 0, 1) := by decide +kernel
theorem dX12_want_1 : decode cX12_want 1 = .ok (.iconst 0, 1) := by decide +kernel
theorem dX12_want_2 : decode cX12_want 2 = .ok (.putfield 138, 3) := by decide +kernel
theorem dX12_want_5 : decode cX12_want 5 = .ok (.aload_n 0, 1) := by decide +kernel
theorem dX12_want_6 : decode cX12_want 6 = .ok (.getfield 372, 3) := by decide +kernel
theorem dX12_want_9 : decode cX12_want 9 = .ok (.bipush 8, 2) := by decide +kernel
theorem dX12_want_11 : decode cX12_want 11 = .ok (.if_icmp .eq 23, 3) := by decide +kernel
theorem dX12_want_14 : decode cX12_want 14 = .ok (.iload_n 1, 1) := by decide +kernel
theorem dX12_want_15 : decode cX12_want 15 = .ok (.iconst 0, 1) := by decide +kernel
theorem dX12_want_16 : decode cX12_want 16 = .ok (.bipush 7, 2) := by decide +kernel
theorem dX12_want_18 : decode cX12_want 18 = .ok (.invokestatic 145, 3) := by decide +kernel
theorem dX12_want_21 : decode cX12_want 21 = .ok (.ifCond .eq 13, 3) := by decide +kernel
theorem dX12_want_24 : decode cX12_want 24 = .ok (.iload_n 2, 1) := by decide +kernel
theorem dX12_want_25 : decode cX12_want 25 = .ok (.iconst 0, 1) := by decide +kernel
theorem dX12_want_26 : decode cX12_want 26 = .ok (.bipush 23, 2) := by decide +kernel
theorem dX12_want_28 : decode cX12_want 28 = .ok (.invokestatic 145, 3) := by decide +kernel
theorem dX12_want_31 : decode cX12_want 31 = .ok (.ifCond .ne 5, 3) := by decide +kernel
theorem dX12_want_34 : decode cX12_want 34 = .ok (.iconst (-1), 1) := by decide +kernel
theorem dX12_want_35 : decode cX12_want 35 = .ok (.ireturn, 1) := by decide +kernel
theorem dX12_want_36 : decode cX12_want 36 = .ok (.aload_n 0, 1) := by decide +kernel
theorem dX12_want_37 : decode cX12_want 37 = .ok (.getfield 117, 3) := by decide +kernel
theorem dX12_want_40 : decode cX12_want 40 = .ok (.aload_n 0, 1) := by decide +kernel
theorem dX12_want_41 : decode cX12_want 41 = .ok (.getfield 372, 3) := by decide +kernel
theorem dX12_want_44 : decode cX12_want 44 = .ok (.iload_n 1, 1) := by decide +kernel
theorem dX12_want_45 : decode cX12_want 45 = .ok (.iastore, 1) := by decide +kernel
theorem dX12_want_46 : decode cX12_want 46 = .ok (.aload_n 0, 1) := by decide +kernel
theorem dX12_want_47 : decode cX12_want 47 = .ok (.getfield 120, 3) := by decide +kernel
theorem dX12_want_50 : decode cX12_want 50 = .ok (.aload_n 0, 1) := by decide +kernel
theorem dX12_want_51 : decode cX12_want 51 = .ok (.getfield 372, 3) := by decide +kernel
theorem dX12_want_54 : decode cX12_want 54 = .ok (.iload_n 2, 1) := by decide +kernel
theorem dX12_want_55 : decode cX12_want 55 = .ok (.iastore, 1) := by decide +kernel
theorem dX12_want_56 : decode cX12_want 56 = .ok (.aload_n 0, 1) := by decide +kernel
theorem dX12_want_57 : decode cX12_want 57 = .ok (.dup, 1) := by decide +kernel
theorem dX12_want_58 : decode cX12_want 58 = .ok (.getfield 372, 3) := by decide +kernel
theorem dX12_want_61 : decode cX12_want 61 = .ok (.iconst 1, 1) := by decide +kernel
theorem dX12_want_62 : decode cX12_want 62 = .ok (.iadd, 1) := by decide +kernel
theorem dX12_want_63 : decode cX12_want 63 = .ok (.putfield 372, 3) := by decide +kernel
theorem dX12_want_66 : decode cX12_want 66 = .ok (.aload_n 0, 1) := by decide +kernel
theorem dX12_want_67 : decode cX12_want 67 = .ok (.getfield 372, 3) := by decide +kernel
theorem dX12_want_70 : decode cX12_want 70 = .ok (.iconst 1, 1) := by decide +kernel
theorem dX12_want_71 : decode cX12_want 71 = .ok (.isub, 1) := by decide +kernel
theorem dX12_want_72 : decode cX12_want 72 = .ok (.ireturn, 1) := by decide +kernel
theorem dX12_watcher_0 : decode cX12_watcher 0 = .ok (.aload_n 0, 1) := by decide +kernel
theorem dX12_watcher_1 : decode cX12_watcher 1 = .ok (.iconst 0, 1) := by decide +kernel
theorem dX12_watcher_2 : decode cX12_watcher 2 = .ok (.putfield 138, 3) := by decide +kernel
theorem dX12_watcher_5 : decode cX12_watcher 5 = .ok (.aload_n 0, 1) := by decide +kernel
theorem dX12_watcher_6 : decode cX12_watcher 6 = .ok (.getfield 369, 3) := by decide +kernel
theorem dX12_watcher_9 : decode cX12_watcher 9 = .ok (.iconst 4, 1) := by decide +kernel
theorem dX12_watcher_10 : decode cX12_watcher 10 = .ok (.if_icmp .eq 23, 3) := by decide +kernel
theorem dX12_watcher_13 : decode cX12_watcher 13 = .ok (.iload_n 1, 1) := by decide +kernel
theorem dX12_watcher_14 : decode cX12_watcher 14 = .ok (.iconst 0, 1) := by decide +kernel
theorem dX12_watcher_15 : decode cX12_watcher 15 = .ok (.bipush 23, 2) := by decide +kernel
theorem dX12_watcher_17 : decode cX12_watcher 17 = .ok (.invokestatic 145, 3) := by decide +kernel
theorem dX12_watcher_20 : decode cX12_watcher 20 = .ok (.ifCond .eq 13, 3) := by decide +kernel
theorem dX12_watcher_23 : decode cX12_watcher 23 = .ok (.iload_n 2, 1) := by decide +kernel
theorem dX12_watcher_24 : decode cX12_watcher 24 = .ok (.iload_n 1, 1) := by decide +kernel
theorem dX12_watcher_25 : decode cX12_watcher 25 = .ok (.bipush 23, 2) := by decide +kernel
theorem dX12_watcher_27 : decode cX12_watcher 27 = .ok (.invokestatic 145, 3) := by decide +kernel
theorem dX12_watcher_30 : decode cX12_watcher 30 = .ok (.ifCond .ne 5, 3) := by decide +kernel
theorem dX12_watcher_33 : decode cX12_watcher 33 = .ok (.iconst (-1), 1) := by decide +kernel
theorem dX12_watcher_34 : decode cX12_watcher 34 = .ok (.ireturn, 1) := by decide +kernel
theorem dX12_watcher_35 : decode cX12_watcher 35 = .ok (.aload_n 0, 1) := by decide +kernel
theorem dX12_watcher_36 : decode cX12_watcher 36 = .ok (.getfield 111, 3) := by decide +kernel
theorem dX12_watcher_39 : decode cX12_watcher 39 = .ok (.aload_n 0, 1) := by decide +kernel
theorem dX12_watcher_40 : decode cX12_watcher 40 = .ok (.getfield 369, 3) := by decide +kernel
theorem dX12_watcher_43 : decode cX12_watcher 43 = .ok (.iload_n 1, 1) := by decide +kernel
theorem dX12_watcher_44 : decode cX12_watcher 44 = .ok (.iastore, 1) := by decide +kernel
theorem dX12_watcher_45 : decode cX12_watcher 45 = .ok (.aload_n 0, 1) := by decide +kernel
theorem dX12_watcher_46 : decode cX12_watcher 46 = .ok (.getfield 114, 3) := by decide +kernel
theorem dX12_watcher_49 : decode cX12_watcher 49 = .ok (.aload_n 0, 1) := by decide +kernel
theorem dX12_watcher_50 : decode cX12_watcher 50 = .ok (.getfield 369, 3) := by decide +kernel
theorem dX12_watcher_53 : decode cX12_watcher 53 = .ok (.iload_n 2, 1) := by decide +kernel
theorem dX12_watcher_54 : decode cX12_watcher 54 = .ok (.iastore, 1) := by decide +kernel
theorem dX12_watcher_55 : decode cX12_watcher 55 = .ok (.aload_n 0, 1) := by decide +kernel
theorem dX12_watcher_56 : decode cX12_watcher 56 = .ok (.dup, 1) := by decide +kernel
theorem dX12_watcher_57 : decode cX12_watcher 57 = .ok (.getfield 369, 3) := by decide +kernel
theorem dX12_watcher_60 : decode cX12_watcher 60 = .ok (.iconst 1, 1) := by decide +kernel
theorem dX12_watcher_61 : decode cX12_watcher 61 = .ok (.iadd, 1) := by decide +kernel
theorem dX12_watcher_62 : decode cX12_watcher 62 = .ok (.putfield 369, 3) := by decide +kernel
theorem dX12_watcher_65 : decode cX12_watcher 65 = .ok (.aload_n 0, 1) := by decide +kernel
theorem dX12_watcher_66 : decode cX12_watcher 66 = .ok (.getfield 369, 3) := by decide +kernel
theorem dX12_watcher_69 : decode cX12_watcher 69 = .ok (.iconst 1, 1) := by decide +kernel
theorem dX12_watcher_70 : decode cX12_watcher 70 = .ok (.isub, 1) := by decide +kernel
theorem dX12_watcher_71 : decode cX12_watcher 71 = .ok (.ireturn, 1) := by decide +kernel
theorem dX12_wordOf_0 : decode cX12_wordOf 0 = .ok (.iconst (-1), 1) := by decide +kernel
theorem dX12_wordOf_1 : decode cX12_wordOf 1 = .ok (.istore 4, 2) := by decide +kernel
theorem dX12_wordOf_3 : decode cX12_wordOf 3 = .ok (.iconst 0, 1) := by decide +kernel
theorem dX12_wordOf_4 : decode cX12_wordOf 4 = .ok (.istore 5, 2) := by decide +kernel
theorem dX12_wordOf_6 : decode cX12_wordOf 6 = .ok (.iload 5, 2) := by decide +kernel
theorem dX12_wordOf_8 : decode cX12_wordOf 8 = .ok (.aload_n 0, 1) := by decide +kernel
theorem dX12_wordOf_9 : decode cX12_wordOf 9 = .ok (.getfield 152, 3) := by decide +kernel
theorem dX12_wordOf_12 : decode cX12_wordOf 12 = .ok (.if_icmp .ge 69, 3) := by decide +kernel
theorem dX12_wordOf_15 : decode cX12_wordOf 15 = .ok (.aload_n 0, 1) := by decide +kernel
theorem dX12_wordOf_16 : decode cX12_wordOf 16 = .ok (.getfield 28, 3) := by decide +kernel
theorem dX12_wordOf_19 : decode cX12_wordOf 19 = .ok (.iload 5, 2) := by decide +kernel
theorem dX12_wordOf_21 : decode cX12_wordOf 21 = .ok (.iaload, 1) := by decide +kernel
theorem dX12_wordOf_22 : decode cX12_wordOf 22 = .ok (.iload_n 1, 1) := by decide +kernel
theorem dX12_wordOf_23 : decode cX12_wordOf 23 = .ok (.if_icmp .ne 52, 3) := by decide +kernel
theorem dX12_wordOf_26 : decode cX12_wordOf 26 = .ok (.aload_n 0, 1) := by decide +kernel
theorem dX12_wordOf_27 : decode cX12_wordOf 27 = .ok (.getfield 40, 3) := by decide +kernel
theorem dX12_wordOf_30 : decode cX12_wordOf 30 = .ok (.iload 5, 2) := by decide +kernel
theorem dX12_wordOf_32 : decode cX12_wordOf 32 = .ok (.iaload, 1) := by decide +kernel
theorem dX12_wordOf_33 : decode cX12_wordOf 33 = .ok (.iload_n 2, 1) := by decide +kernel
theorem dX12_wordOf_34 : decode cX12_wordOf 34 = .ok (.if_icmp .ne 41, 3) := by decide +kernel
theorem dX12_wordOf_37 : decode cX12_wordOf 37 = .ok (.aload_n 0, 1) := by decide +kernel
theorem dX12_wordOf_38 : decode cX12_wordOf 38 = .ok (.getfield 46, 3) := by decide +kernel
theorem dX12_wordOf_41 : decode cX12_wordOf 41 = .ok (.iload 5, 2) := by decide +kernel
theorem dX12_wordOf_43 : decode cX12_wordOf 43 = .ok (.iaload, 1) := by decide +kernel
theorem dX12_wordOf_44 : decode cX12_wordOf 44 = .ok (.iload_n 3, 1) := by decide +kernel
theorem dX12_wordOf_45 : decode cX12_wordOf 45 = .ok (.if_icmp .gt 30, 3) := by decide +kernel
theorem dX12_wordOf_48 : decode cX12_wordOf 48 = .ok (.iload 4, 2) := by decide +kernel
theorem dX12_wordOf_50 : decode cX12_wordOf 50 = .ok (.iconst (-1), 1) := by decide +kernel
theorem dX12_wordOf_51 : decode cX12_wordOf 51 = .ok (.if_icmp .eq 20, 3) := by decide +kernel
theorem dX12_wordOf_54 : decode cX12_wordOf 54 = .ok (.aload_n 0, 1) := by decide +kernel
theorem dX12_wordOf_55 : decode cX12_wordOf 55 = .ok (.getfield 31, 3) := by decide +kernel
theorem dX12_wordOf_58 : decode cX12_wordOf 58 = .ok (.iload 5, 2) := by decide +kernel
theorem dX12_wordOf_60 : decode cX12_wordOf 60 = .ok (.iaload, 1) := by decide +kernel
theorem dX12_wordOf_61 : decode cX12_wordOf 61 = .ok (.aload_n 0, 1) := by decide +kernel
theorem dX12_wordOf_62 : decode cX12_wordOf 62 = .ok (.getfield 31, 3) := by decide +kernel
theorem dX12_wordOf_65 : decode cX12_wordOf 65 = .ok (.iload 4, 2) := by decide +kernel
theorem dX12_wordOf_67 : decode cX12_wordOf 67 = .ok (.iaload, 1) := by decide +kernel
theorem dX12_wordOf_68 : decode cX12_wordOf 68 = .ok (.if_icmp .ge 7, 3) := by decide +kernel
theorem dX12_wordOf_71 : decode cX12_wordOf 71 = .ok (.iload 5, 2) := by decide +kernel
theorem dX12_wordOf_73 : decode cX12_wordOf 73 = .ok (.istore 4, 2) := by decide +kernel
theorem dX12_wordOf_75 : decode cX12_wordOf 75 = .ok (.iinc 5 1, 3) := by decide +kernel
theorem dX12_wordOf_78 : decode cX12_wordOf 78 = .ok (.goto (-72), 3) := by decide +kernel
theorem dX12_wordOf_81 : decode cX12_wordOf 81 = .ok (.iload 4, 2) := by decide +kernel
theorem dX12_wordOf_83 : decode cX12_wordOf 83 = .ok (.ireturn, 1) := by decide +kernel
end
section
/-! THE MODEL's memory: one object, its arrays; a state is its ints and its arrays' ints -/
abbrev MS : Type := (Nat → Int32) × (Nat → Nat → Int32)
def updB (f : Nat → Int32) (k : Nat) (v : Int32) : Nat → Int32 := fun j => bif Nat.beq j k then v else f j
theorem updB_eq {f : Nat → Int32} {k : Nat} {v : Int32} : updB f k v k = v := by unfold updB; rw [Nat.beq_refl]; rfl
theorem updB_ne {f : Nat → Int32} {k j : Nat} {v : Int32} (h : j ≠ k) : updB f k v j = f j := by
  unfold updB
  cases e : Nat.beq j k with
  | false => rfl
  | true => exact absurd (Nat.eq_of_beq_eq_true e) h
def seti (σ : MS) (k : Nat) (v : Int32) : MS := (updB σ.1 k v, σ.2)
def seta (σ : MS) (k i : Nat) (v : Int32) : MS := (σ.1, fun j => bif Nat.beq j k then updB (σ.2 k) i v else σ.2 j)
theorem seta_eq {σ : MS} {k i : Nat} {v : Int32} : (seta σ k i v).2 k = updB (σ.2 k) i v := by unfold seta; show (bif Nat.beq k k then _ else _) = _; rw [Nat.beq_refl]; rfl
theorem seta_ne {σ : MS} {k i j : Nat} {v : Int32} (h : j ≠ k) : (seta σ k i v).2 j = σ.2 j := by
  show (bif Nat.beq j k then _ else _) = _
  cases e : Nat.beq j k with
  | false => rfl
  | true => exact absurd (Nat.eq_of_beq_eq_true e) h
/-- the arrays: field, kind, length -/
def mArr : List (Nat × Nat × Nat) := [(2, 100, 24), (3, 100, 24), (4, 100, 24), (5, 100, 60), (6, 100, 60), (7, 100, 60), (8, 100, 200), (9, 100, 200), (10, 100, 200), (11, 100, 200), (12, 100, 200), (13, 100, 200), (14, 100, 200), (18, 101, 160), (19, 101, 3200), (20, 100, 20), (21, 100, 20), (22, 100, 20), (23, 100, 128), (35, 100, 200), (38, 100, 100), (39, 100, 100), (40, 100, 100), (41, 100, 100), (42, 103, 100), (43, 103, 24), (45, 100, 200), (46, 100, 200), (47, 100, 200), (48, 100, 200), (50, 100, 32), (51, 100, 200), (53, 100, 4), (54, 100, 4), (55, 100, 8), (56, 100, 8), (57, 100, 8), (58, 100, 8), (62, 100, 8), (63, 100, 8), (64, 100, 24)]
def mFind : List (Nat × Nat × Nat) → Nat → Option (Nat × Nat)
  | [], _ => none
  | (k, c) :: t, i => bif Nat.beq k i then some c else mFind t i
def mIsA (k : Nat) : Bool := (mFind mArr k).isSome
/-- the field text (26) holds the array whose field's number stands in its place -/
def vM (ad : Nat → Nat) (σ : MS) (k : Nat) : Value := bif mIsA k then .ref (ad k) else bif Nat.beq k 26 then .ref (ad (σ.1 26).toNatClampNeg) else .int (σ.1 k)
def mmA (ad : Nat → Nat) (σ : MS) : List (Nat × Nat × Nat) → Mem
  | [] => fun _ => none
  | (k, c, n) :: t => fun a => if a = ad k then some (c, n, fun i => .int (σ.2 k i)) else mmA ad σ t a
def mm (ad : Nat → Nat) (σ : MS) : Mem := fun a => if a = ad 99 then some (13, 66, vM ad σ) else mmA ad σ mArr a
def adOK (ad : Nat → Nat) : Prop := ∀ i j, i < 100 → j < 100 → ad i = ad j → i = j
theorem mm_obj {ad : Nat → Nat} {σ : MS} : mm ad σ (ad 99) = some (13, 66, vM ad σ) := if_pos rfl
theorem mFind_mem : ∀ {l : List (Nat × Nat × Nat)} {k : Nat} {c : Nat × Nat}, mFind l k = some c → (k, c) ∈ l
  | [], _, _, h => by cases h
  | (j, e) :: t, k, c, h => by
    unfold mFind at h
    cases e1 : Nat.beq j k with
    | true =>
      rw [e1] at h
      have hj : j = k := Nat.eq_of_beq_eq_true e1
      cases h
      subst hj
      exact List.mem_cons_self
    | false =>
      rw [e1] at h
      exact List.mem_cons_of_mem _ (mFind_mem h)
theorem mArr_lt : ∀ q ∈ mArr, q.1 < 99 := by decide
theorem mmA_get {ad : Nat → Nat} {σ : MS} (hi : adOK ad) : ∀ (l : List (Nat × Nat × Nat)), (∀ q ∈ l, q.1 < 99) → ∀ {k c n : Nat}, mFind l k = some (c, n) → mmA ad σ l (ad k) = some (c, n, fun i => .int (σ.2 k i))
  | [], _, _, _, _, h => by cases h
  | (j, c0, n0) :: t, hl, k, c, n, h => by
    have hm := mFind_mem h
    have hk : k < 99 := hl _ hm
    have hj : j < 99 := hl (j, c0, n0) List.mem_cons_self
    unfold mFind at h
    cases e1 : Nat.beq j k with
    | true =>
      rw [e1] at h
      have e2 : j = k := Nat.eq_of_beq_eq_true e1
      subst e2
      cases h
      exact if_pos rfl
    | false =>
      rw [e1] at h
      have e2 : j ≠ k := Nat.ne_of_beq_eq_false e1
      show (if ad k = ad j then _ else _) = _
      rw [if_neg (fun z => e2 (hi j k (by omega) (by omega) z.symm))]
      exact mmA_get hi t (fun q hq => hl q (List.mem_cons_of_mem _ hq)) h
theorem mm_arr {ad : Nat → Nat} {σ : MS} (hi : adOK ad) {k c n : Nat} (h : mFind mArr k = some (c, n)) : mm ad σ (ad k) = some (c, n, fun i => .int (σ.2 k i)) := by
  have hk : k < 99 := mArr_lt _ (mFind_mem h)
  unfold mm
  rw [if_neg (fun z => absurd (hi k 99 (by omega) (by omega) z) (by omega))]
  exact mmA_get hi mArr mArr_lt h
theorem vM_seti {ad : Nat → Nat} {σ : MS} {k : Nat} {v : Int32} (h1 : mIsA k = false) (h2 : k ≠ 26) : vM ad (seti σ k v) = updV (vM ad σ) k (.int v) := by
  funext j
  by_cases e : j = k
  · subst e
    rw [updV_eq]
    unfold vM
    rw [h1]
    have : Nat.beq j 26 = false := by
      cases e2 : Nat.beq j 26 with
      | false => rfl
      | true => exact absurd (Nat.eq_of_beq_eq_true e2) h2
    rw [this]
    show Value.int (updB σ.1 j v j) = _
    rw [updB_eq]
  · rw [updV_ne e]
    unfold vM
    have h3 : (seti σ k v).1 j = σ.1 j := updB_ne e
    have h4 : (seti σ k v).1 26 = σ.1 26 := updB_ne (fun z => h2 z.symm)
    rw [h3, h4]
theorem mmA_seti {ad : Nat → Nat} {σ : MS} {k : Nat} {v : Int32} : ∀ l, mmA ad (seti σ k v) l = mmA ad σ l
  | [] => rfl
  | (j, c, n) :: t => by
    show (fun a => if a = ad j then _ else mmA ad (seti σ k v) t a) = _
    rw [mmA_seti t]; rfl
theorem mm_seti {ad : Nat → Nat} {σ : MS} {k : Nat} {v : Int32} (h1 : mIsA k = false) (h2 : k ≠ 26) : mset (mm ad σ) (ad 99) (13, 66, updV (vM ad σ) k (.int v)) = mm ad (seti σ k v) := by
  funext a
  unfold mset mm
  by_cases e : a = ad 99
  · rw [if_pos e, if_pos e, vM_seti h1 h2]
  · rw [if_neg e, if_neg e, if_neg e, mmA_seti]
theorem mm_setx {ad : Nat → Nat} {σ : MS} {j : Nat} (hj : j < 2 ^ 31) : mset (mm ad σ) (ad 99) (13, 66, updV (vM ad σ) 26 (.ref (ad j))) = mm ad (seti σ 26 (nI j)) := by
  funext a
  unfold mset mm
  by_cases e : a = ad 99
  · rw [if_pos e, if_pos e]
    congr 3
    funext i
    by_cases e2 : i = 26
    · subst e2
      rw [updV_eq]
      show _ = Value.ref (ad ((updB σ.1 26 (nI j)) 26).toNatClampNeg)
      rw [updB_eq, nI_clamp hj]
    · rw [updV_ne e2]
      unfold vM
      have : Nat.beq i 26 = false := by
        cases e3 : Nat.beq i 26 with
        | false => rfl
        | true => exact absurd (Nat.eq_of_beq_eq_true e3) e2
      rw [this]
      show _ = bif mIsA i then _ else Value.int (updB σ.1 26 (nI j) i)
      rw [updB_ne e2]; rfl
  · rw [if_neg e, if_neg e, if_neg e, mmA_seti]
theorem mmA_seta {ad : Nat → Nat} {σ : MS} (hi : adOK ad) {k i : Nat} {v : Int32} (hk : k < 99) : ∀ (l : List (Nat × Nat × Nat)), (∀ q ∈ l, q.1 < 99) → ∀ a, a ≠ ad k → mmA ad (seta σ k i v) l a = mmA ad σ l a
  | [], _, _, _ => rfl
  | (j, c, n) :: t, hl, a, ha => by
    show (if a = ad j then some (c, n, fun x => Value.int ((seta σ k i v).2 j x)) else mmA ad (seta σ k i v) t a) = (if a = ad j then some (c, n, fun x => Value.int (σ.2 j x)) else mmA ad σ t a)
    by_cases e : a = ad j
    · rw [if_pos e, if_pos e]
      have : j ≠ k := fun z => ha (by rw [e, z])
      have h2 : (seta σ k i v).2 j = σ.2 j := seta_ne this
      rw [h2]
    · rw [if_neg e, if_neg e, mmA_seta hi hk t (fun q hq => hl q (List.mem_cons_of_mem _ hq)) a ha]
theorem mm_seta {ad : Nat → Nat} {σ : MS} (hi : adOK ad) {k c n i : Nat} {v : Int32} (h : mFind mArr k = some (c, n)) : mset (mm ad σ) (ad k) (c, n, updV (fun x => .int (σ.2 k x)) i (.int v)) = mm ad (seta σ k i v) := by
  have hk : k < 99 := mArr_lt _ (mFind_mem h)
  funext a
  by_cases e : a = ad k
  · subst e
    rw [mset_eq, mm_arr hi h]
    congr 3
    funext x
    have h2 : (seta σ k i v).2 k = updB (σ.2 k) i v := seta_eq
    rw [h2]
    by_cases e2 : x = i
    · subst e2; rw [updV_eq, updB_eq]
    · rw [updV_ne e2, updB_ne e2]
  · rw [mset_ne e]
    unfold mm
    by_cases e2 : a = ad 99
    · rw [if_pos e2, if_pos e2]; rfl
    · rw [if_neg e2, if_neg e2, mmA_seta hi hk mArr mArr_lt a e]
theorem vmi_0 {ad : Nat → Nat} {σ : MS} : vM ad σ 0 = .int (σ.1 0) := rfl
theorem vmq_0 : (mIsA 0 || Nat.beq 0 26) = false := rfl
theorem vmn_0 {v : Int32} : narrow (vwTy 13 0) (.int v) = .int v := rfl
theorem vmf_0 {v : Int32} : fits (vwTy 13 0) (.int v) = true := rfl
theorem vmi_1 {ad : Nat → Nat} {σ : MS} : vM ad σ 1 = .int (σ.1 1) := rfl
theorem vmq_1 : (mIsA 1 || Nat.beq 1 26) = false := rfl
theorem vmn_1 {v : Int32} : narrow (vwTy 13 1) (.int v) = .int v := rfl
theorem vmf_1 {v : Int32} : fits (vwTy 13 1) (.int v) = true := rfl
theorem vma_2 {ad : Nat → Nat} {σ : MS} : vM ad σ 2 = .ref (ad 2) := rfl
theorem mf_2 : mFind mArr 2 = some (100, 24) := rfl
theorem vma_3 {ad : Nat → Nat} {σ : MS} : vM ad σ 3 = .ref (ad 3) := rfl
theorem mf_3 : mFind mArr 3 = some (100, 24) := rfl
theorem vma_4 {ad : Nat → Nat} {σ : MS} : vM ad σ 4 = .ref (ad 4) := rfl
theorem mf_4 : mFind mArr 4 = some (100, 24) := rfl
theorem vma_5 {ad : Nat → Nat} {σ : MS} : vM ad σ 5 = .ref (ad 5) := rfl
theorem mf_5 : mFind mArr 5 = some (100, 60) := rfl
theorem vma_6 {ad : Nat → Nat} {σ : MS} : vM ad σ 6 = .ref (ad 6) := rfl
theorem mf_6 : mFind mArr 6 = some (100, 60) := rfl
theorem vma_7 {ad : Nat → Nat} {σ : MS} : vM ad σ 7 = .ref (ad 7) := rfl
theorem mf_7 : mFind mArr 7 = some (100, 60) := rfl
theorem vma_8 {ad : Nat → Nat} {σ : MS} : vM ad σ 8 = .ref (ad 8) := rfl
theorem mf_8 : mFind mArr 8 = some (100, 200) := rfl
theorem vma_9 {ad : Nat → Nat} {σ : MS} : vM ad σ 9 = .ref (ad 9) := rfl
theorem mf_9 : mFind mArr 9 = some (100, 200) := rfl
theorem vma_10 {ad : Nat → Nat} {σ : MS} : vM ad σ 10 = .ref (ad 10) := rfl
theorem mf_10 : mFind mArr 10 = some (100, 200) := rfl
theorem vma_11 {ad : Nat → Nat} {σ : MS} : vM ad σ 11 = .ref (ad 11) := rfl
theorem mf_11 : mFind mArr 11 = some (100, 200) := rfl
theorem vma_12 {ad : Nat → Nat} {σ : MS} : vM ad σ 12 = .ref (ad 12) := rfl
theorem mf_12 : mFind mArr 12 = some (100, 200) := rfl
theorem vma_13 {ad : Nat → Nat} {σ : MS} : vM ad σ 13 = .ref (ad 13) := rfl
theorem mf_13 : mFind mArr 13 = some (100, 200) := rfl
theorem vma_14 {ad : Nat → Nat} {σ : MS} : vM ad σ 14 = .ref (ad 14) := rfl
theorem mf_14 : mFind mArr 14 = some (100, 200) := rfl
theorem vmi_15 {ad : Nat → Nat} {σ : MS} : vM ad σ 15 = .int (σ.1 15) := rfl
theorem vmq_15 : (mIsA 15 || Nat.beq 15 26) = false := rfl
theorem vmn_15 {v : Int32} : narrow (vwTy 13 15) (.int v) = .int v := rfl
theorem vmf_15 {v : Int32} : fits (vwTy 13 15) (.int v) = true := rfl
theorem vmi_16 {ad : Nat → Nat} {σ : MS} : vM ad σ 16 = .int (σ.1 16) := rfl
theorem vmq_16 : (mIsA 16 || Nat.beq 16 26) = false := rfl
theorem vmn_16 {v : Int32} : narrow (vwTy 13 16) (.int v) = .int v := rfl
theorem vmf_16 {v : Int32} : fits (vwTy 13 16) (.int v) = true := rfl
theorem vmi_17 {ad : Nat → Nat} {σ : MS} : vM ad σ 17 = .int (σ.1 17) := rfl
theorem vmq_17 : (mIsA 17 || Nat.beq 17 26) = false := rfl
theorem vmn_17 {v : Int32} : narrow (vwTy 13 17) (.int v) = .int v := rfl
theorem vmf_17 {v : Int32} : fits (vwTy 13 17) (.int v) = true := rfl
theorem vma_18 {ad : Nat → Nat} {σ : MS} : vM ad σ 18 = .ref (ad 18) := rfl
theorem mf_18 : mFind mArr 18 = some (101, 160) := rfl
theorem vma_19 {ad : Nat → Nat} {σ : MS} : vM ad σ 19 = .ref (ad 19) := rfl
theorem mf_19 : mFind mArr 19 = some (101, 3200) := rfl
theorem vma_20 {ad : Nat → Nat} {σ : MS} : vM ad σ 20 = .ref (ad 20) := rfl
theorem mf_20 : mFind mArr 20 = some (100, 20) := rfl
theorem vma_21 {ad : Nat → Nat} {σ : MS} : vM ad σ 21 = .ref (ad 21) := rfl
theorem mf_21 : mFind mArr 21 = some (100, 20) := rfl
theorem vma_22 {ad : Nat → Nat} {σ : MS} : vM ad σ 22 = .ref (ad 22) := rfl
theorem mf_22 : mFind mArr 22 = some (100, 20) := rfl
theorem vma_23 {ad : Nat → Nat} {σ : MS} : vM ad σ 23 = .ref (ad 23) := rfl
theorem mf_23 : mFind mArr 23 = some (100, 128) := rfl
theorem vmi_24 {ad : Nat → Nat} {σ : MS} : vM ad σ 24 = .int (σ.1 24) := rfl
theorem vmq_24 : (mIsA 24 || Nat.beq 24 26) = false := rfl
theorem vmn_24 {v : Int32} : narrow (vwTy 13 24) (.int v) = .int v := rfl
theorem vmf_24 {v : Int32} : fits (vwTy 13 24) (.int v) = true := rfl
theorem vmi_25 {ad : Nat → Nat} {σ : MS} : vM ad σ 25 = .int (σ.1 25) := rfl
theorem vmq_25 : (mIsA 25 || Nat.beq 25 26) = false := rfl
theorem vmn_25 {v : Int32} : narrow (vwTy 13 25) (.int v) = .int v := rfl
theorem vmf_25 {v : Int32} : fits (vwTy 13 25) (.int v) = true := rfl
theorem vmi_27 {ad : Nat → Nat} {σ : MS} : vM ad σ 27 = .int (σ.1 27) := rfl
theorem vmq_27 : (mIsA 27 || Nat.beq 27 26) = false := rfl
theorem vmn_27 {v : Int32} : narrow (vwTy 13 27) (.int v) = .int v := rfl
theorem vmf_27 {v : Int32} : fits (vwTy 13 27) (.int v) = true := rfl
theorem vmi_28 {ad : Nat → Nat} {σ : MS} : vM ad σ 28 = .int (σ.1 28) := rfl
theorem vmq_28 : (mIsA 28 || Nat.beq 28 26) = false := rfl
theorem vmn_28 {v : Int32} : narrow (vwTy 13 28) (.int v) = .int v := rfl
theorem vmf_28 {v : Int32} : fits (vwTy 13 28) (.int v) = true := rfl
theorem vmi_29 {ad : Nat → Nat} {σ : MS} : vM ad σ 29 = .int (σ.1 29) := rfl
theorem vmq_29 : (mIsA 29 || Nat.beq 29 26) = false := rfl
theorem vmn_29 {v : Int32} : narrow (vwTy 13 29) (.int v) = .int v := rfl
theorem vmf_29 {v : Int32} : fits (vwTy 13 29) (.int v) = true := rfl
theorem vmi_30 {ad : Nat → Nat} {σ : MS} : vM ad σ 30 = .int (σ.1 30) := rfl
theorem vmq_30 : (mIsA 30 || Nat.beq 30 26) = false := rfl
theorem vmn_30 {v : Int32} : narrow (vwTy 13 30) (.int v) = .int v := rfl
theorem vmf_30 {v : Int32} : fits (vwTy 13 30) (.int v) = true := rfl
theorem vmi_31 {ad : Nat → Nat} {σ : MS} : vM ad σ 31 = .int (σ.1 31) := rfl
theorem vmq_31 : (mIsA 31 || Nat.beq 31 26) = false := rfl
theorem vmn_31 {v : Int32} : narrow (vwTy 13 31) (.int v) = .int v := rfl
theorem vmf_31 {v : Int32} : fits (vwTy 13 31) (.int v) = true := rfl
theorem vmi_32 {ad : Nat → Nat} {σ : MS} : vM ad σ 32 = .int (σ.1 32) := rfl
theorem vmq_32 : (mIsA 32 || Nat.beq 32 26) = false := rfl
theorem vmn_32 {v : Int32} : narrow (vwTy 13 32) (.int v) = .int v := rfl
theorem vmf_32 {v : Int32} : fits (vwTy 13 32) (.int v) = true := rfl
theorem vmi_33 {ad : Nat → Nat} {σ : MS} : vM ad σ 33 = .int (σ.1 33) := rfl
theorem vmq_33 : (mIsA 33 || Nat.beq 33 26) = false := rfl
theorem vmn_33 {v : Int32} : narrow (vwTy 13 33) (.int v) = .int v := rfl
theorem vmf_33 {v : Int32} : fits (vwTy 13 33) (.int v) = true := rfl
theorem vmi_34 {ad : Nat → Nat} {σ : MS} : vM ad σ 34 = .int (σ.1 34) := rfl
theorem vmq_34 : (mIsA 34 || Nat.beq 34 26) = false := rfl
theorem vma_35 {ad : Nat → Nat} {σ : MS} : vM ad σ 35 = .ref (ad 35) := rfl
theorem mf_35 : mFind mArr 35 = some (100, 200) := rfl
theorem vmi_36 {ad : Nat → Nat} {σ : MS} : vM ad σ 36 = .int (σ.1 36) := rfl
theorem vmq_36 : (mIsA 36 || Nat.beq 36 26) = false := rfl
theorem vmn_36 {v : Int32} : narrow (vwTy 13 36) (.int v) = .int v := rfl
theorem vmf_36 {v : Int32} : fits (vwTy 13 36) (.int v) = true := rfl
theorem vmi_37 {ad : Nat → Nat} {σ : MS} : vM ad σ 37 = .int (σ.1 37) := rfl
theorem vmq_37 : (mIsA 37 || Nat.beq 37 26) = false := rfl
theorem vmn_37 {v : Int32} : narrow (vwTy 13 37) (.int v) = .int v := rfl
theorem vmf_37 {v : Int32} : fits (vwTy 13 37) (.int v) = true := rfl
theorem vma_38 {ad : Nat → Nat} {σ : MS} : vM ad σ 38 = .ref (ad 38) := rfl
theorem mf_38 : mFind mArr 38 = some (100, 100) := rfl
theorem vma_39 {ad : Nat → Nat} {σ : MS} : vM ad σ 39 = .ref (ad 39) := rfl
theorem mf_39 : mFind mArr 39 = some (100, 100) := rfl
theorem vma_40 {ad : Nat → Nat} {σ : MS} : vM ad σ 40 = .ref (ad 40) := rfl
theorem mf_40 : mFind mArr 40 = some (100, 100) := rfl
theorem vma_41 {ad : Nat → Nat} {σ : MS} : vM ad σ 41 = .ref (ad 41) := rfl
theorem mf_41 : mFind mArr 41 = some (100, 100) := rfl
theorem vma_42 {ad : Nat → Nat} {σ : MS} : vM ad σ 42 = .ref (ad 42) := rfl
theorem mf_42 : mFind mArr 42 = some (103, 100) := rfl
theorem vma_43 {ad : Nat → Nat} {σ : MS} : vM ad σ 43 = .ref (ad 43) := rfl
theorem mf_43 : mFind mArr 43 = some (103, 24) := rfl
theorem vmi_44 {ad : Nat → Nat} {σ : MS} : vM ad σ 44 = .int (σ.1 44) := rfl
theorem vmq_44 : (mIsA 44 || Nat.beq 44 26) = false := rfl
theorem vmn_44 {v : Int32} : narrow (vwTy 13 44) (.int v) = .int v := rfl
theorem vmf_44 {v : Int32} : fits (vwTy 13 44) (.int v) = true := rfl
theorem vma_45 {ad : Nat → Nat} {σ : MS} : vM ad σ 45 = .ref (ad 45) := rfl
theorem mf_45 : mFind mArr 45 = some (100, 200) := rfl
theorem vma_46 {ad : Nat → Nat} {σ : MS} : vM ad σ 46 = .ref (ad 46) := rfl
theorem mf_46 : mFind mArr 46 = some (100, 200) := rfl
theorem vma_47 {ad : Nat → Nat} {σ : MS} : vM ad σ 47 = .ref (ad 47) := rfl
theorem mf_47 : mFind mArr 47 = some (100, 200) := rfl
theorem vma_48 {ad : Nat → Nat} {σ : MS} : vM ad σ 48 = .ref (ad 48) := rfl
theorem mf_48 : mFind mArr 48 = some (100, 200) := rfl
theorem vmi_49 {ad : Nat → Nat} {σ : MS} : vM ad σ 49 = .int (σ.1 49) := rfl
theorem vmq_49 : (mIsA 49 || Nat.beq 49 26) = false := rfl
theorem vmn_49 {v : Int32} : narrow (vwTy 13 49) (.int v) = .int v := rfl
theorem vmf_49 {v : Int32} : fits (vwTy 13 49) (.int v) = true := rfl
theorem vma_50 {ad : Nat → Nat} {σ : MS} : vM ad σ 50 = .ref (ad 50) := rfl
theorem mf_50 : mFind mArr 50 = some (100, 32) := rfl
theorem vma_51 {ad : Nat → Nat} {σ : MS} : vM ad σ 51 = .ref (ad 51) := rfl
theorem mf_51 : mFind mArr 51 = some (100, 200) := rfl
theorem vmi_52 {ad : Nat → Nat} {σ : MS} : vM ad σ 52 = .int (σ.1 52) := rfl
theorem vmq_52 : (mIsA 52 || Nat.beq 52 26) = false := rfl
theorem vmn_52 {v : Int32} : narrow (vwTy 13 52) (.int v) = .int v := rfl
theorem vmf_52 {v : Int32} : fits (vwTy 13 52) (.int v) = true := rfl
theorem vma_53 {ad : Nat → Nat} {σ : MS} : vM ad σ 53 = .ref (ad 53) := rfl
theorem mf_53 : mFind mArr 53 = some (100, 4) := rfl
theorem vma_54 {ad : Nat → Nat} {σ : MS} : vM ad σ 54 = .ref (ad 54) := rfl
theorem mf_54 : mFind mArr 54 = some (100, 4) := rfl
theorem vma_55 {ad : Nat → Nat} {σ : MS} : vM ad σ 55 = .ref (ad 55) := rfl
theorem mf_55 : mFind mArr 55 = some (100, 8) := rfl
theorem vma_56 {ad : Nat → Nat} {σ : MS} : vM ad σ 56 = .ref (ad 56) := rfl
theorem mf_56 : mFind mArr 56 = some (100, 8) := rfl
theorem vma_57 {ad : Nat → Nat} {σ : MS} : vM ad σ 57 = .ref (ad 57) := rfl
theorem mf_57 : mFind mArr 57 = some (100, 8) := rfl
theorem vma_58 {ad : Nat → Nat} {σ : MS} : vM ad σ 58 = .ref (ad 58) := rfl
theorem mf_58 : mFind mArr 58 = some (100, 8) := rfl
theorem vmi_59 {ad : Nat → Nat} {σ : MS} : vM ad σ 59 = .int (σ.1 59) := rfl
theorem vmq_59 : (mIsA 59 || Nat.beq 59 26) = false := rfl
theorem vmn_59 {v : Int32} : narrow (vwTy 13 59) (.int v) = .int v := rfl
theorem vmf_59 {v : Int32} : fits (vwTy 13 59) (.int v) = true := rfl
theorem vmi_60 {ad : Nat → Nat} {σ : MS} : vM ad σ 60 = .int (σ.1 60) := rfl
theorem vmq_60 : (mIsA 60 || Nat.beq 60 26) = false := rfl
theorem vmn_60 {v : Int32} : narrow (vwTy 13 60) (.int v) = .int v := rfl
theorem vmf_60 {v : Int32} : fits (vwTy 13 60) (.int v) = true := rfl
theorem vmi_61 {ad : Nat → Nat} {σ : MS} : vM ad σ 61 = .int (σ.1 61) := rfl
theorem vmq_61 : (mIsA 61 || Nat.beq 61 26) = false := rfl
theorem vmn_61 {v : Int32} : narrow (vwTy 13 61) (.int v) = .int v := rfl
theorem vmf_61 {v : Int32} : fits (vwTy 13 61) (.int v) = true := rfl
theorem vma_62 {ad : Nat → Nat} {σ : MS} : vM ad σ 62 = .ref (ad 62) := rfl
theorem mf_62 : mFind mArr 62 = some (100, 8) := rfl
theorem vma_63 {ad : Nat → Nat} {σ : MS} : vM ad σ 63 = .ref (ad 63) := rfl
theorem mf_63 : mFind mArr 63 = some (100, 8) := rfl
theorem vma_64 {ad : Nat → Nat} {σ : MS} : vM ad σ 64 = .ref (ad 64) := rfl
theorem mf_64 : mFind mArr 64 = some (100, 24) := rfl
theorem vmi_65 {ad : Nat → Nat} {σ : MS} : vM ad σ 65 = .int (σ.1 65) := rfl
theorem vmq_65 : (mIsA 65 || Nat.beq 65 26) = false := rfl
theorem vmn_65 {v : Int32} : narrow (vwTy 13 65) (.int v) = .int v := rfl
theorem vmf_65 {v : Int32} : fits (vwTy 13 65) (.int v) = true := rfl
section XM
variable {G : Gam} {d : Nat} {k : Nat × Nat} {Y : MR} {ad : Nat → Nat} {σ : MS} {lv : Lv} {st : List Value} {pc : Nat} {Q : Option Value → Mem → Prop}
theorem xm_geti {idx kf : Nat} (hd : decode Y.2.1 pc = .ok (.getfield idx, 3)) (hlk : LkF Y.1.cls idx 13 kf) (hv : vM ad σ kf = .int (σ.1 kf)) (kk : XJ G d k Y (mm ad σ) lv (.int (σ.1 kf) :: st) (pc + 3) Q) : XJ G d k Y (mm ad σ) lv (.ref (ad 99) :: st) pc Q := x_getf hd hlk mm_obj hv kk
theorem xm_geta {idx kf : Nat} (hd : decode Y.2.1 pc = .ok (.getfield idx, 3)) (hlk : LkF Y.1.cls idx 13 kf) (hv : vM ad σ kf = .ref (ad kf)) (kk : XJ G d k Y (mm ad σ) lv (.ref (ad kf) :: st) (pc + 3) Q) : XJ G d k Y (mm ad σ) lv (.ref (ad 99) :: st) pc Q := x_getf hd hlk mm_obj hv kk
theorem xm_puti {idx kf : Nat} {v : Int32} (hd : decode Y.2.1 pc = .ok (.putfield idx, 3)) (hlk : LkP Y.1.cls idx 13 kf) (hA : (mIsA kf || Nat.beq kf 26) = false) (hn : narrow (vwTy 13 kf) (.int v) = .int v) (hfit : fits (vwTy 13 kf) (.int v) = true) (kk : XJ G d k Y (mm ad (seti σ kf v)) lv st (pc + 3) Q) : XJ G d k Y (mm ad σ) lv (.int v :: .ref (ad 99) :: st) pc Q := by
  rw [Bool.or_eq_false_iff] at hA
  refine x_putf hd hlk mm_obj hn hfit ?_
  rw [mm_seti hA.1 (Nat.ne_of_beq_eq_false hA.2)]
  exact kk
theorem xm_iald {n j : Nat} (kf : Nat) {i : Int32} (hd : decode Y.2.1 pc = .ok (.iaload, 1)) (h : mFind mArr kf = some (100, n)) (hi : adOK ad) (hin : vp_in i n) (hj : i.toNatClampNeg = j) (kk : XJ G d k Y (mm ad σ) lv (.int (σ.2 kf j) :: st) (pc + 1) Q) : XJ G d k Y (mm ad σ) lv (.int i :: .ref (ad kf) :: st) pc Q := x_iaload hd (mm_arr hi h) hin (by rw [hj]) kk
theorem xm_bald {n j : Nat} (kf : Nat) {i : Int32} (hd : decode Y.2.1 pc = .ok (.baload, 1)) (h : mFind mArr kf = some (101, n)) (hi : adOK ad) (hin : vp_in i n) (hj : i.toNatClampNeg = j) (kk : XJ G d k Y (mm ad σ) lv (.int (σ.2 kf j) :: st) (pc + 1) Q) : XJ G d k Y (mm ad σ) lv (.int i :: .ref (ad kf) :: st) pc Q := x_baload hd (mm_arr hi h) hin (by rw [hj]) kk
theorem xm_zald {n j : Nat} (kf : Nat) {i : Int32} (hd : decode Y.2.1 pc = .ok (.baload, 1)) (h : mFind mArr kf = some (103, n)) (hi : adOK ad) (hin : vp_in i n) (hj : i.toNatClampNeg = j) (kk : XJ G d k Y (mm ad σ) lv (.int (σ.2 kf j) :: st) (pc + 1) Q) : XJ G d k Y (mm ad σ) lv (.int i :: .ref (ad kf) :: st) pc Q := x_zaload hd (mm_arr hi h) hin (by rw [hj]) kk
theorem xm_iast {n j : Nat} (kf : Nat) {i v : Int32} (hd : decode Y.2.1 pc = .ok (.iastore, 1)) (h : mFind mArr kf = some (100, n)) (hi : adOK ad) (hin : vp_in i n) (hj : i.toNatClampNeg = j) (kk : XJ G d k Y (mm ad (seta σ kf j v)) lv st (pc + 1) Q) : XJ G d k Y (mm ad σ) lv (.int v :: .int i :: .ref (ad kf) :: st) pc Q := by
  refine x_iastore hd (mm_arr hi h) hin ?_
  rw [mm_seta hi h, hj]; exact kk
theorem xm_bast {n j : Nat} (kf : Nat) {i v : Int32} (hd : decode Y.2.1 pc = .ok (.bastore, 1)) (h : mFind mArr kf = some (101, n)) (hi : adOK ad) (hin : vp_in i n) (hj : i.toNatClampNeg = j) (kk : XJ G d k Y (mm ad (seta σ kf j v.toInt8.toInt32)) lv st (pc + 1) Q) : XJ G d k Y (mm ad σ) lv (.int v :: .int i :: .ref (ad kf) :: st) pc Q := by
  refine x_bastore hd (mm_arr hi h) hin ?_
  rw [mm_seta hi h, hj]; exact kk
theorem xm_zast {n j : Nat} (kf : Nat) {i v : Int32} (hd : decode Y.2.1 pc = .ok (.bastore, 1)) (h : mFind mArr kf = some (103, n)) (hi : adOK ad) (hin : vp_in i n) (hj : i.toNatClampNeg = j) (kk : XJ G d k Y (mm ad (seta σ kf j (v &&& 1))) lv st (pc + 1) Q) : XJ G d k Y (mm ad σ) lv (.int v :: .int i :: .ref (ad kf) :: st) pc Q := by
  refine x_zastore hd (mm_arr hi h) hin ?_
  rw [mm_seta hi h, hj]; exact kk
end XM
/-- 1 where P holds, else 0 -/
noncomputable def bI (P : Prop) : Int32 := @ite _ P (Classical.propDecidable P) 1 0
theorem bI_t {P : Prop} (h : P) : bI P = 1 := if_pos h
theorem bI_f {P : Prop} (h : ¬ P) : bI P = 0 := if_neg h
theorem bI_c {P Q : Prop} (h : P ↔ Q) : bI P = bI Q := by rw [propext h]
theorem bI_01 {P : Prop} : bI P = 0 ∨ bI P = 1 := by
  by_cases h : P
  · exact Or.inr (bI_t h)
  · exact Or.inl (bI_f h)
theorem bI_nar {P : Prop} : narrow .boolean (.int (bI P)) = .int (bI P) := by
  rcases bI_01 (P := P) with h | h <;> rw [h] <;> rfl
theorem bI_and1 {P : Prop} : bI P &&& 1 = bI P := by
  rcases bI_01 (P := P) with h | h <;> rw [h] <;> rfl
section XB
variable {G : Gam} {d : Nat} {k : Nat × Nat} {Y : MR} {M : Mem} {lv : Lv} {st : List Value} {pc : Nat} {Q : Option Value → Mem → Prop}
theorem x_if_eq_b {P : Prop} {off : Int} {tgt : Nat} (hd : decode Y.2.1 pc = .ok (.ifCond .eq off, 3)) (ht : (pc : Int) + off = (tgt : Int)) (kt : ¬ P → XJ G d k Y M lv st tgt Q) (kf : P → XJ G d k Y M lv st (pc + 3) Q) : XJ G d k Y M lv (.int (bI P) :: st) pc Q :=
  x_if_eq hd ht (fun h => kt (fun p => by rw [bI_t p] at h; exact absurd h (by decide))) (fun h => kf (Classical.byContradiction fun p => h (bI_f p)))
theorem x_if_ne_b {P : Prop} {off : Int} {tgt : Nat} (hd : decode Y.2.1 pc = .ok (.ifCond .ne off, 3)) (ht : (pc : Int) + off = (tgt : Int)) (kt : P → XJ G d k Y M lv st tgt Q) (kf : ¬ P → XJ G d k Y M lv st (pc + 3) Q) : XJ G d k Y M lv (.int (bI P) :: st) pc Q :=
  x_if_ne hd ht (fun h => kt (Classical.byContradiction fun p => h (bI_f p))) (fun h => kf (fun p => by rw [bI_t p] at h; exact absurd h (by decide)))
end XB
section MDB
variable {G : Gam} {d : Nat} {k : Nat × Nat} {ad : Nat → Nat} {σ : MS} {M : Mem} {Q : Option Value → Mem → Prop}
theorem c_X12_isIn {v a b : Int32} (hq : Q (some (.int (bI (a ≤ v ∧ v ≤ b)))) M) : CT G d (0, 0) MX12_isIn [.int v, .int a, .int b] M Q := by
  refine CT.of rfl (Nat.le_of_ble_eq_true rfl) ?_
  refine x_iload_n dX12_isIn_0 rfl rfl ?_
  refine x_iload_n dX12_isIn_1 rfl rfl ?_
  refine x_icmp_lt (tgt := 14) dX12_isIn_2 (by decide) (fun h2 => ?_) (fun h2 => ?_)
  · refine x_iconst (v := 0) dX12_isIn_14 (by decide) ?_
    exact x_ireturn dX12_isIn_15 rfl rfl (by first | (rw [bI_t ⟨Int32.not_lt.mp h2, Int32.not_lt.mp h7⟩] at hq; exact hq) | (rw [bI_f (fun z => absurd h2 (Int32.not_lt.mpr z.1))] at hq; exact hq) | (rw [bI_f (fun z => absurd h7 (Int32.not_lt.mpr z.2))] at hq; exact hq))
  · refine x_iload_n dX12_isIn_5 rfl rfl ?_
    refine x_iload_n dX12_isIn_6 rfl rfl ?_
    refine x_icmp_gt (tgt := 14) dX12_isIn_7 (by decide) (fun h7 => ?_) (fun h7 => ?_)
    · refine x_iconst (v := 0) dX12_isIn_14 (by decide) ?_
      exact x_ireturn dX12_isIn_15 rfl rfl (by first | (rw [bI_t ⟨Int32.not_lt.mp h2, Int32.not_lt.mp h7⟩] at hq; exact hq) | (rw [bI_f (fun z => absurd h2 (Int32.not_lt.mpr z.1))] at hq; exact hq) | (rw [bI_f (fun z => absurd h7 (Int32.not_lt.mpr z.2))] at hq; exact hq))
    · refine x_iconst (v := 1) dX12_isIn_10 (by decide) ?_
      refine x_goto (tgt := 15) dX12_isIn_11 (by decide) ?_
      exact x_ireturn dX12_isIn_15 rfl rfl (by first | (rw [bI_t ⟨Int32.not_lt.mp h2, Int32.not_lt.mp h7⟩] at hq; exact hq) | (rw [bI_f (fun z => absurd h2 (Int32.not_lt.mpr z.1))] at hq; exact hq) | (rw [bI_f (fun z => absurd h7 (Int32.not_lt.mpr z.2))] at hq; exact hq))
theorem c_X12_isKnown {q : Int32} (hq : Q (some (.int (bI (0 ≤ q ∧ q ≤ σ.1 1)))) (mm ad σ)) : CT G (d + 1) (0, 0) MX12_isKnown [.ref (ad 99), .int q] (mm ad σ) Q := by
  refine CT.of rfl (Nat.le_of_ble_eq_true rfl) ?_
  refine x_iload_n dX12_isKnown_0 rfl rfl ?_
  refine x_iconst (v := 0) dX12_isKnown_1 (by decide) ?_
  refine x_aload_n dX12_isKnown_2 rfl rfl ?_
  refine xm_geti dX12_isKnown_3 lf_X12_142 vmi_1 ?_
  refine x_cS3 dX12_isKnown_6 ls_X12_145 rfl  (c_X12_isIn ?_)
  exact x_ireturn dX12_isKnown_9 rfl bI_nar (hq)
end MDB
end
section
/-! WHAT THE DOCUMENT SAYS, over a state: answers and next states, for both sides -/
noncomputable def cI {α : Type} (P : Prop) (a b : α) : α := @ite _ P (Classical.propDecidable P) a b
theorem cI_t {α : Type} {P : Prop} {a b : α} (h : P) : cI P a b = a := if_pos h
theorem cI_f {α : Type} {P : Prop} {a b : α} (h : ¬ P) : cI P a b = b := if_neg h
theorem cI_c {α : Type} {P P' : Prop} {a b : α} (h : P ↔ P') : cI P a b = cI P' a b := by rw [propext h]
theorem fin {Q : Option Value → Mem → Prop} {M : Mem} {a b : Int32} (h : Q (some (.int a)) M) (e : a = b) : Q (some (.int b)) M := e ▸ h
/-- both the answer and the state hang on P -/
theorem fin_t {Q : Option Value → Mem → Prop} {P : Prop} {a b c : Int32} {m : MS → Mem} {s t : MS} (h : Q (some (.int (cI P a b))) (m (cI P s t))) (hp : P) (e : a = c) : Q (some (.int c)) (m s) := by rw [cI_t hp, cI_t hp, e] at h; exact h
theorem fin_f {Q : Option Value → Mem → Prop} {P : Prop} {a b : Int32} {m : MS → Mem} {s t : MS} (h : Q (some (.int (cI P a b))) (m (cI P s t))) (hp : ¬ P) : Q (some (.int b)) (m t) := by rw [cI_f hp, cI_f hp] at h; exact h
theorem fan_t {Q : Option Value → Mem → Prop} {P : Prop} {a b : Int32} {M : Mem} (h : Q (some (.int (cI P a b))) M) (hp : P) : Q (some (.int a)) M := by rw [cI_t hp] at h; exact h
theorem fan_f {Q : Option Value → Mem → Prop} {P : Prop} {a b : Int32} {M : Mem} (h : Q (some (.int (cI P a b))) M) (hp : ¬ P) : Q (some (.int b)) M := by rw [cI_f hp] at h; exact h
theorem fbn_t {Q : Option Value → Mem → Prop} {P : Prop} {m : MS → Mem} {s t : MS} (h : Q (some (.int (bI P))) (m (cI P s t))) (hp : P) : Q (some (.int 1)) (m s) := by rw [bI_t hp, cI_t hp] at h; exact h
theorem fbn_f {Q : Option Value → Mem → Prop} {P : Prop} {m : MS → Mem} {s t : MS} (h : Q (some (.int (bI P))) (m (cI P s t))) (hp : ¬ P) : Q (some (.int 0)) (m t) := by rw [bI_f hp, cI_f hp] at h; exact h
def fold {α : Type} (f : Nat → α → α) (a : α) : Nat → α
  | 0 => a
  | n + 1 => f n (fold f a n)
def cn (σ : MS) (k : Nat) : Nat := (σ.1 k).toNatClampNeg
def isP (σ : MS) (p : Int32) : Prop := 0 ≤ p ∧ p < σ.1 15
def isL (σ : MS) (l : Int32) : Prop := 0 ≤ l ∧ l < σ.1 16
def isK (σ : MS) (q : Int32) : Prop := 0 ≤ q ∧ q ≤ σ.1 1
def isD (x : Int32) : Prop := 0 ≤ x ∧ x ≤ 1000
def isS (x : Int32) : Prop := 0 ≤ x ∧ x ≤ 9
def isR (x : Int32) : Prop := 0 ≤ x ∧ x ≤ 5
/-- the counts' bounds -/
def mBnd : List (Nat × Nat) := [(1, 1000), (15, 24), (16, 200), (17, 60), (24, 160), (25, 20), (44, 100), (49, 200), (59, 4), (60, 8), (65, 8)]
def Bnd (σ : MS) (k b : Nat) : Prop := σ.1 k = nI (cn σ k) ∧ cn σ k ≤ b
def Cnt (σ : MS) : Prop := ∀ q ∈ mBnd, Bnd σ q.1 q.2
theorem Cnt.b {σ : MS} (h : Cnt σ) (k : Nat) {b : Nat} (hm : (k, b) ∈ mBnd) : σ.1 k = nI (cn σ k) ∧ cn σ k ≤ b := h (k, b) hm
theorem Cnt.th {σ σ0 : MS} (h0 : seti σ 0 0 = σ0) (h : Cnt σ) : Cnt σ0 := by
  subst h0
  intro q hq
  have h1 := h q hq
  have h2 : q.1 ≠ 0 := by
    have : ∀ q ∈ mBnd, q.1 ≠ 0 := by decide
    exact this q hq
  have h3 : (seti σ 0 0).1 q.1 = σ.1 q.1 := updB_ne h2
  unfold Bnd cn at *
  rw [h3]; exact h1
/-- an index below a count -/
theorem in_lt {l c : Int32} {n N : Nat} (h0 : 0 ≤ l) (h1 : l < c) (hc : c = nI n) (hn : n ≤ N) (hN : N < 2 ^ 31) : vp_in l N := by
  rw [vp_in_iff]
  rw [Int32.le_iff_toInt_le, Int32.toInt_zero] at h0
  rw [Int32.lt_iff_toInt_lt, hc, nI_toInt (by omega)] at h1
  omega
theorem of_lt {l c : Int32} {n : Nat} (h0 : 0 ≤ l) (h1 : l < c) (hc : c = nI n) (hN : n < 2 ^ 31) : ∃ j, j < n ∧ l = nI j := by
  have := in_lt h0 h1 hc (Nat.le_refl n) hN
  exact vp_in_of this hN
theorem of_le {l c : Int32} {n : Nat} (h0 : 0 ≤ l) (h1 : l ≤ c) (hc : c = nI n) (hN : n < 2 ^ 31) : ∃ j, j ≤ n ∧ l = nI j :=
  nI_of2 (M := c) (by rw [hc, nI_toInt hN]) (Int32.not_lt.mpr h0) h1
/-- a count that isn't at its bound is an index -/
theorem in_cnt {c v : Int32} {n N : Nat} (hc : c = nI n) (hn : n ≤ N) (hv : v = nI N) (hne : ¬ c = v) (hN : N < 2 ^ 31) : vp_in c N := by
  rw [hc]
  refine vp_in_nI ?_ hN
  have : n ≠ N := fun z => hne (by rw [hc, hv, z])
  omega
theorem add_sub1 (x : Int32) : x + 1 - 1 = x := by rw [Int32.add_sub_cancel]
-- days
def pDays (σ : MS) (n : Int32) : Prop := (0 ≤ n ∧ n ≤ 400) ∧ σ.1 1 + n ≤ 1000
noncomputable def aDays (σ : MS) (n : Int32) : Int32 := cI (pDays σ n) (σ.1 1 + n) (-1)
noncomputable def nDays (σ : MS) (n : Int32) : MS := cI (pDays σ n) (seti σ 1 (σ.1 1 + n)) σ
-- person
def pPerson (σ : MS) (a b c : Int32) : Prop := σ.1 15 ≠ 24 ∧ (0 ≤ a ∧ a ≤ 7) ∧ (10 ≤ b ∧ b ≤ 99) ∧ (0 ≤ c ∧ c ≤ 7)
noncomputable def aPerson (σ : MS) (a b c : Int32) : Int32 := cI (pPerson σ a b c) (σ.1 15) (-1)
noncomputable def nPerson (σ : MS) (a b c : Int32) : MS := cI (pPerson σ a b c) (seti (seta (seta (seta σ 2 (cn σ 15) a) 3 (cn σ 15) b) 4 (cn σ 15) c) 15 (σ.1 15 + 1)) σ
-- stops
def spStop (σ : MS) (p q : Int32) (n : Nat) : Int32 := fold (fun i day => if σ.2 5 i = p ∧ σ.2 7 i ≤ q then σ.2 6 i else day) (-1) n
def pStop (σ : MS) (p day : Int32) : Prop := σ.1 17 ≠ 60 ∧ isP σ p ∧ isD day
noncomputable def aStop (σ : MS) (p day : Int32) : Int32 := bI (pStop σ p day)
noncomputable def nStop (σ : MS) (p day : Int32) : MS := cI (pStop σ p day) (seti (seta (seta (seta σ 5 (cn σ 17) p) 6 (cn σ 17) day) 7 (cn σ 17) (σ.1 1)) 17 (σ.1 17 + 1)) σ
noncomputable def aStopped (σ : MS) (p q : Int32) : Int32 := cI (isP σ p ∧ isK σ q) (spStop σ p q (cn σ 17)) (-1)
def isG (σ : MS) (p day q : Int32) : Prop := spStop σ p q (cn σ 17) ≠ -1 ∧ spStop σ p q (cn σ 17) ≤ day
-- line
def pLine (σ : MS) (p day sort mood say src : Int32) : Prop := σ.1 16 ≠ 200 ∧ isP σ p ∧ (0 ≤ day ∧ day ≤ σ.1 1) ∧ isS sort ∧ (-9 ≤ mood ∧ mood ≤ 9) ∧ (-1 ≤ say ∧ say ≤ 29) ∧ (src = -1 ∨ (isP σ src ∧ src ≠ p ∧ say ≠ -1)) ∧ ¬ isG σ p day (σ.1 1)
noncomputable def aLine (σ : MS) (p day sort mood say src : Int32) : Int32 := cI (pLine σ p day sort mood say src) (σ.1 16) (-1)
noncomputable def nLine (σ : MS) (p day sort mood say src : Int32) : MS := cI (pLine σ p day sort mood say src)
  (seti (seta (seta (seta (seta (seta (seta (seta σ 8 (cn σ 16) p) 9 (cn σ 16) day) 10 (cn σ 16) sort) 11 (cn σ 16) mood) 12 (cn σ 16) say) 13 (cn σ 16) src) 14 (cn σ 16) (σ.1 1)) 16 (σ.1 16 + 1)) σ
-- rules in force
def spRule (σ : MS) (day q : Int32) (n : Nat) : Int32 := fold (fun i best => if σ.2 22 i ≤ q ∧ σ.2 21 i ≤ day ∧ (best = -1 ∨ σ.2 21 best.toNatClampNeg ≤ σ.2 21 i) then nI i else best) (-1) n
noncomputable def aForce (σ : MS) (day q : Int32) : Int32 := cI (isD day ∧ isK σ q) (spRule σ day q (cn σ 25)) (-1)
-- happenings
def pHappen (σ : MS) (a b c : Int32) : Prop := σ.1 44 ≠ 100 ∧ (0 ≤ a ∧ a ≤ 7) ∧ isD b ∧ isS c
noncomputable def aHappen (σ : MS) (a b c : Int32) : Int32 := bI (pHappen σ a b c)
noncomputable def nHappen (σ : MS) (a b c z : Int32) : MS := cI (pHappen σ a b c) (seti (seta (seta (seta (seta (seta σ 38 (cn σ 44) a) 39 (cn σ 44) b) 40 (cn σ 44) c) 42 (cn σ 44) (z &&& 1)) 41 (cn σ 44) (σ.1 1)) 44 (σ.1 44 + 1)) σ
def isLB (σ : MS) (l q : Int32) : Prop := isL σ l ∧ isK σ q ∧ σ.2 14 l.toNatClampNeg ≤ q
def spTruth (σ : MS) (l : Nat) (q : Int32) (n : Nat) : Int32 := fold (fun i is => if σ.2 41 i ≤ q ∧ σ.2 38 i = σ.2 2 (σ.2 8 l).toNatClampNeg ∧ σ.2 39 i = σ.2 9 l ∧ σ.2 40 i = σ.2 10 l then (if σ.2 42 i = 0 then 0 else 1) else is) 2 n
noncomputable def aTruth (σ : MS) (l q : Int32) : Int32 := cI (isLB σ l q) (spTruth σ l.toNatClampNeg q (cn σ 44)) (-1)
-- words
def spWord (σ : MS) (p say q : Int32) (n : Nat) : Int32 := fold (fun i best => if σ.2 8 i = p ∧ σ.2 12 i = say ∧ σ.2 14 i ≤ q ∧ (best = -1 ∨ σ.2 9 i < σ.2 9 best.toNatClampNeg) then nI i else best) (-1) n
def spBear (σ : MS) (say q : Int32) (n : Nat) : Int32 := fold (fun i c => if spWord σ (nI i) say q (cn σ 16) = -1 then c else c + 1) 0 n
noncomputable def aBear (σ : MS) (say q : Int32) : Int32 := cI ((0 ≤ say ∧ say ≤ 29) ∧ isK σ q) (spBear σ say q (cn σ 15)) (-1)
-- marks
def pMark (σ : MS) (r l v : Int32) : Prop := σ.1 49 ≠ 200 ∧ isR r ∧ isL σ l ∧ (0 ≤ v ∧ v ≤ 9)
noncomputable def aMark (σ : MS) (r l v : Int32) : Int32 := bI (pMark σ r l v)
noncomputable def nMark (σ : MS) (r l v : Int32) : MS := cI (pMark σ r l v) (seti (seta (seta (seta (seta σ 45 (cn σ 49) r) 46 (cn σ 49) l) 47 (cn σ 49) v) 48 (cn σ 49) (σ.1 1)) 49 (σ.1 49 + 1)) σ
def spMark (σ : MS) (r l q : Int32) (n : Nat) : Int32 := fold (fun i is => if σ.2 45 i = r ∧ σ.2 46 i = l ∧ σ.2 48 i ≤ q then σ.2 47 i else is) (-1) n
def mk (σ : MS) (q : Int32) (r : Int32) (l : Nat) : Int32 := spMark σ r (nI l) q (cn σ 49)
noncomputable def aMarked (σ : MS) (r l q : Int32) : Int32 := cI (isR r ∧ isL σ l ∧ isK σ q) (spMark σ r l q (cn σ 49)) (-1)
def spAgree (σ : MS) (one other q what : Int32) (n : Nat) : Int32 := fold (fun i c => if mk σ q one i ≠ -1 ∧ mk σ q other i ≠ -1 ∧ (what = 1 ∨ mk σ q one i = mk σ q other i) then c + 1 else c) 0 n
noncomputable def aAgree (σ : MS) (one other q what : Int32) : Int32 := cI (isR one ∧ isR other ∧ ¬ one = other ∧ isK σ q ∧ (0 ≤ what ∧ what ≤ 1)) (spAgree σ one other q what (cn σ 16)) (-1)
def spHab1 (σ : MS) (reader q : Int32) (l : Nat) (st : Int32 × Int32) (n : Nat) : Int32 × Int32 := fold (fun r s => if nI r ≠ reader ∧ mk σ q (nI r) l ≠ -1 ∧ mk σ q reader l ≠ -1 then (s.1 + (mk σ q reader l - mk σ q (nI r) l), s.2 + 1) else s) st n
def spHab (σ : MS) (reader q : Int32) (n : Nat) : Int32 × Int32 := fold (fun l s => spHab1 σ reader q l s 6) (0, 0) n
noncomputable def aHabit (σ : MS) (reader q : Int32) : Int32 := cI (isR reader ∧ isK σ q) (if (spHab σ reader q (cn σ 16)).2 = 0 then 0 else 1000 * (spHab σ reader q (cn σ 16)).1 / (spHab σ reader q (cn σ 16)).2) (-1000000)
def spHav (σ : MS) (q v : Int32) (l : Nat) (n : Nat) : Int32 := fold (fun r c => if mk σ q (nI r) l = v then c + 1 else c) 0 n
def spHeld (σ : MS) (q : Int32) (l : Nat) (n : Nat) : Int32 × Int32 := fold (fun v s => if s.2 < spHav σ q (nI v) l 6 then (nI v, spHav σ q (nI v) l 6) else s) (-1, 1) n
noncomputable def aHeld (σ : MS) (l q : Int32) : Int32 := cI (isLB σ l q) (spHeld σ q l.toNatClampNeg 10).1 (-1)
-- land
def pLand (a b c : Int32) : Prop := (0 ≤ a ∧ a ≤ 7) ∧ (0 ≤ b ∧ b ≤ 3) ∧ (0 ≤ c ∧ c ≤ 9999)
noncomputable def aLand (a b c : Int32) : Int32 := bI (pLand a b c)
noncomputable def nLand (σ : MS) (a b c : Int32) : MS := cI (pLand a b c) (seta σ 50 (4 * a + b).toNatClampNeg c) σ
def spPeople (σ : MS) (n : Nat) : Int32 := fold (fun i s => s + σ.2 50 i) 0 n
-- moods
def spMood (σ : MS) (day q : Int32) (n : Nat) : Int32 × Int32 := fold (fun i s => if σ.2 9 i = day ∧ σ.2 14 i ≤ q then (s.1 + σ.2 11 i, s.2 + 1) else s) (0, 0) n
noncomputable def aMood (σ : MS) (day q what : Int32) : Int32 := cI (isD day ∧ isK σ q ∧ (0 ≤ what ∧ what ≤ 1)) (if what = 0 then (spMood σ day q (cn σ 16)).1 else (spMood σ day q (cn σ 16)).2) (-1000000)
-- last lines
def spLast (σ : MS) (p q : Int32) (n : Nat) : Int32 := fold (fun i best => if σ.2 8 i = p ∧ σ.2 14 i ≤ q ∧ (best = -1 ∨ σ.2 9 best.toNatClampNeg ≤ σ.2 9 i) then nI i else best) (-1) n
noncomputable def aLast (σ : MS) (p q : Int32) : Int32 := cI (isP σ p ∧ isK σ q) (spLast σ p q (cn σ 16)) (-1)
-- watchers, wanted, questions
def pWatch (σ : MS) (a b : Int32) : Prop := σ.1 59 ≠ 4 ∧ (0 ≤ a ∧ a ≤ 23) ∧ (a ≤ b ∧ b ≤ 23)
noncomputable def aWatch (σ : MS) (a b : Int32) : Int32 := cI (pWatch σ a b) (σ.1 59) (-1)
noncomputable def nWatch (σ : MS) (a b : Int32) : MS := cI (pWatch σ a b) (seti (seta (seta σ 53 (cn σ 59) a) 54 (cn σ 59) b) 59 (σ.1 59 + 1)) σ
def pWant (σ : MS) (a b : Int32) : Prop := σ.1 60 ≠ 8 ∧ (0 ≤ a ∧ a ≤ 7) ∧ (0 ≤ b ∧ b ≤ 23)
noncomputable def aWant (σ : MS) (a b : Int32) : Int32 := cI (pWant σ a b) (σ.1 60) (-1)
noncomputable def nWant (σ : MS) (a b : Int32) : MS := cI (pWant σ a b) (seti (seta (seta σ 55 (cn σ 60) a) 56 (cn σ 60) b) 60 (σ.1 60 + 1)) σ
def pQuest (σ : MS) (a b : Int32) : Prop := σ.1 65 ≠ 8 ∧ (1 ≤ a ∧ a ≤ 50) ∧ (0 ≤ b ∧ b ≤ 1023)
noncomputable def aQuest (σ : MS) (a b : Int32) : Int32 := cI (pQuest σ a b) (σ.1 65) (-1)
noncomputable def nQuest (σ : MS) (a b : Int32) : MS := cI (pQuest σ a b) (seti (seta (seta σ 62 (cn σ 65) a) 63 (cn σ 65) b) 65 (σ.1 65 + 1)) σ
-- numbers
def iabs (x : Int32) : Int32 := if 0 ≤ x then x else -x
def labs (x : Int64) : Int64 := if 0 ≤ lg_cmp x 0 then x else -x
def bc1 (x : Int32) : Int32 := x - ((x.toUInt32 >>> ((1 : Int32).toUInt32 &&& Int32.toUInt32 31)).toInt32 &&& 1431655765)
def bc2 (x : Int32) : Int32 := (x &&& 858993459) + ((x.toUInt32 >>> ((2 : Int32).toUInt32 &&& Int32.toUInt32 31)).toInt32 &&& 858993459)
def bc3 (x : Int32) : Int32 := (x + (x.toUInt32 >>> ((4 : Int32).toUInt32 &&& Int32.toUInt32 31)).toInt32) &&& 252645135
def bc4 (x : Int32) : Int32 := x + (x.toUInt32 >>> ((8 : Int32).toUInt32 &&& Int32.toUInt32 31)).toInt32
def bc5 (x : Int32) : Int32 := x + (x.toUInt32 >>> ((16 : Int32).toUInt32 &&& Int32.toUInt32 31)).toInt32
/-- how many bits (as the machine counts them) -/
def bitc (x : Int32) : Int32 := bc5 (bc4 (bc3 (bc2 (bc1 x)))) &&& 63
-- the tape
def spBytes (v : Int32) (n : Nat) : Int32 := fold (fun i c => if (v >>> ((nI (24 - 8 * i)) &&& 31)) &&& 255 = 0 then c else c + 1) 0 n
def putS (v : Int32) (n : Nat) (σ : MS) : MS := fold (fun i s => if (v >>> ((nI (24 - 8 * i)) &&& 31)) &&& 255 = 0 then s else seti (seta s 18 (cn s 24) ((v >>> ((nI (24 - 8 * i)) &&& 31)).toInt8.toInt32).toInt8.toInt32) 24 (s.1 24 + 1)) σ n
def fedTo (σ : MS) (a b c d e : Int32) : Int32 := σ.1 24 + spBytes a 4 + spBytes b 4 + spBytes c 4 + spBytes d 4 + spBytes e 4
noncomputable def nFeed (σ : MS) (a b c d e : Int32) : MS := cI (fedTo σ a b c d e ≤ 160) (putS e 4 (putS d 4 (putS c 4 (putS b 4 (putS a 4 σ))))) σ
noncomputable def aFeed (σ : MS) (a b c d e : Int32) : Int32 := cI (fedTo σ a b c d e ≤ 160) ((putS e 4 (putS d 4 (putS c 4 (putS b 4 (putS a 4 σ))))).1 24) (-1)
def pEnd (σ : MS) (n : Int32) : Prop := 0 ≤ n ∧ n ≤ σ.1 24
noncomputable def aEnd (σ : MS) (n : Int32) : Int32 := bI (pEnd σ n)
noncomputable def nEnd (σ : MS) (n : Int32) : MS := cI (pEnd σ n) (seti σ 24 n) σ
-- who is known
def strat (a : Int32) : Int32 := if a < 25 then 0 else if a < 45 then 1 else if a < 65 then 2 else 3
def like (σ : MS) (p o : Nat) (by' : Int32) : Prop := (by' &&& 1 = 0 ∨ σ.2 2 o = σ.2 2 p) ∧ (by' &&& 2 = 0 ∨ strat (σ.2 3 o) = strat (σ.2 3 p)) ∧ (by' &&& 4 = 0 ∨ σ.2 4 o = σ.2 4 p)
noncomputable def spAlike (σ : MS) (p : Nat) (by' : Int32) (n : Nat) : Int32 := fold (fun o c => cI (like σ p o by') (c + 1) c) 0 n
noncomputable def aAlike (σ : MS) (p by' : Int32) : Int32 := cI (isP σ p ∧ (0 ≤ by' ∧ by' ≤ 7)) (spAlike σ p.toNatClampNeg by' (cn σ 15)) (-1)
/-- all have m alike by these -/
def allA (σ : MS) (m by' : Int32) (n : Nat) : Prop := ∀ p, p < n → m ≤ spAlike σ p by' (cn σ 15)
noncomputable def spHide (σ : MS) (m : Int32) (n : Nat) : Int32 := fold (fun i best => cI (allA σ m (7 &&& (nI i ^^^ -1)) (cn σ 15) ∧ (best = -1 ∨ bitc (nI i) < bitc best)) (nI i) best) (-1) n
noncomputable def aHide (σ : MS) (m : Int32) : Int32 := cI (1 ≤ m) (spHide σ m 8) (-1)
-- questions
def spPrice (σ : MS) (set : Int32) (n : Nat) : Int32 := fold (fun i c => if (set >>> (nI i &&& 31)) &&& 1 = 1 then c + σ.2 62 i else c) 0 n
def spSortB (σ : MS) (set : Int32) (n : Nat) : Int32 := fold (fun i c => if (set >>> (nI i &&& 31)) &&& 1 = 1 then c ||| σ.2 63 i else c) 0 n
def spSorts (σ : MS) (set : Int32) : Int32 := bitc (spSortB σ set (cn σ 65))
def pJudge (σ : MS) (set coin : Int32) : Prop := 0 ≤ set ∧ set < 1 <<< (σ.1 65 &&& 31) ∧ (0 ≤ coin ∧ coin ≤ 400)
noncomputable def aJudge (σ : MS) (set coin : Int32) : Int32 := cI (pJudge σ set coin) (if coin < spPrice σ set (cn σ 65) then -1 else spSorts σ set) (-2)
/-- set is better than best -/
def bett (σ : MS) (set best : Int32) : Prop :=
  let m0 := spSorts σ set - spSorts σ best
  let m := if m0 = 0 then spPrice σ best (cn σ 65) - spPrice σ set (cn σ 65) else m0
  0 < m ∨ (m = 0 ∧ set &&& ((set ^^^ best) &&& -(set ^^^ best)) ≠ 0)
noncomputable def spBuy (σ : MS) (coin : Int32) (n : Nat) : Int32 := fold (fun i best => cI (spPrice σ (nI (i + 1)) (cn σ 65) ≤ coin ∧ bett σ (nI (i + 1)) best) (nI (i + 1)) best) 0 n
noncomputable def aBuy (σ : MS) (coin : Int32) : Int32 := cI (0 ≤ coin ∧ coin ≤ 400) (spBuy σ coin (2 ^ cn σ 65 - 1)) (-1)
-- leanings
noncomputable def spLean (σ : MS) (sort q : Int32) (n : Nat) : (Int32 × Int32) × (Int32 × Int32) := fold (fun i s =>
  if spLast σ (nI i) q (cn σ 16) = -1 then s else
  let so : Int32 := if σ.2 10 (spLast σ (nI i) q (cn σ 16)).toNatClampNeg = sort then 1 else 0
  cI (isG σ (nI i) q q) ((s.1.1 + 1, s.1.2 + so), s.2) (s.1, (s.2.1 + 1, s.2.2 + so))) ((0, 0), (0, 0)) n
noncomputable def aLean (σ : MS) (sort q : Int32) : Int32 := cI (isS sort ∧ isK σ q)
  (if (spLean σ sort q (cn σ 15)).1.1 = 0 ∨ (spLean σ sort q (cn σ 15)).2.1 = 0 then -1000000 else 1000 * (spLean σ sort q (cn σ 15)).1.2 / (spLean σ sort q (cn σ 15)).1.1 - 1000 * (spLean σ sort q (cn σ 15)).2.2 / (spLean σ sort q (cn σ 15)).2.1) (-1000000)
noncomputable def spGone (σ : MS) (n : Nat) : Int32 := fold (fun i c => cI (isG σ (nI i) (σ.1 1) (σ.1 1)) (c + 1) c) 0 n
noncomputable def aCount (σ : MS) (w : Int32) : Int32 := if w = 0 then σ.1 1 else if w = 1 then σ.1 15 else if w = 2 then σ.1 16 else if w = 3 then σ.1 25 else if w = 4 then σ.1 44 else if w = 5 then σ.1 49 else if w = 6 then σ.1 59 else if w = 7 then σ.1 60 else if w = 8 then σ.1 65 else if w = 9 then σ.1 24 else if w = 10 then spGone σ (cn σ 15) else if w = 11 then spPeople σ 32 else -1
/-- how many bytes of v, of n looked at, are kept -/
def nB (v : Int32) (n : Nat) : Nat := fold (fun i c => if (v >>> ((nI (24 - 8 * i)) &&& 31)) &&& 255 = 0 then c else c + 1) 0 n
theorem nB_le (v : Int32) : ∀ n, nB v n ≤ n
  | 0 => Nat.le_refl 0
  | n + 1 => by
    have e : nB v (n + 1) = if (v >>> ((nI (24 - 8 * n)) &&& 31)) &&& 255 = 0 then nB v n else nB v n + 1 := rfl
    have := nB_le v n
    rw [e]; split <;> omega
theorem spBytes_n (v : Int32) : ∀ n, spBytes v n = nI (nB v n)
  | 0 => rfl
  | n + 1 => by
    have e : nB v (n + 1) = if (v >>> ((nI (24 - 8 * n)) &&& 31)) &&& 255 = 0 then nB v n else nB v n + 1 := rfl
    have e2 : spBytes v (n + 1) = if (v >>> ((nI (24 - 8 * n)) &&& 31)) &&& 255 = 0 then spBytes v n else spBytes v n + 1 := rfl
    rw [e, e2, spBytes_n v n]
    split
    · rfl
    · rw [nI_1]
theorem putS_len (v : Int32) (σ : MS) {m : Nat} (h : σ.1 24 = nI m) : ∀ n, (putS v n σ).1 24 = nI (m + nB v n)
  | 0 => h
  | n + 1 => by
    have e : nB v (n + 1) = if (v >>> ((nI (24 - 8 * n)) &&& 31)) &&& 255 = 0 then nB v n else nB v n + 1 := rfl
    have e2 : putS v (n + 1) σ = if (v >>> ((nI (24 - 8 * n)) &&& 31)) &&& 255 = 0 then putS v n σ else seti (seta (putS v n σ) 18 (cn (putS v n σ) 24) ((v >>> ((nI (24 - 8 * n)) &&& 31)).toInt8.toInt32).toInt8.toInt32) 24 ((putS v n σ).1 24 + 1) := rfl
    rw [e, e2]
    split
    · exact putS_len v σ h n
    · show (putS v n σ).1 24 + 1 = _
      rw [putS_len v σ h n, nI_1]; rfl
theorem fedTo_n {σ : MS} {m : Nat} (h : σ.1 24 = nI m) (a b c d e : Int32) : fedTo σ a b c d e = nI (m + nB a 4 + nB b 4 + nB c 4 + nB d 4 + nB e 4) := by
  unfold fedTo
  rw [h, spBytes_n, spBytes_n, spBytes_n, spBytes_n, spBytes_n, nI_add, nI_add, nI_add, nI_add, nI_add]
-- told
def vTold (σ : MS) (l : Nat) (w : Int32) : Int32 := if w = 0 then σ.2 8 l else if w = 1 then σ.2 9 l else if w = 2 then σ.2 10 l else if w = 3 then σ.2 11 l else if w = 4 then σ.2 12 l else if w = 5 then σ.2 13 l else σ.2 14 l
def pTold (σ : MS) (l w : Int32) : Prop := isL σ l ∧ (0 ≤ w ∧ w ≤ 6)
-- the table of watchers
abbrev TT : Type := (Nat → Int32) × (Nat → Int32) × Int32
def clash (σ : MS) (one k : Nat) : Prop := iabs (σ.2 56 one - σ.2 56 k) = 0 ∨ (iabs (σ.2 56 one - σ.2 56 k) < 2 ∧ ¬ σ.2 55 one = σ.2 55 k)
def mayS (σ : MS) (tr : Nat → Int32) (w one : Nat) : Prop := (σ.2 53 w ≤ σ.2 56 one ∧ σ.2 56 one ≤ σ.2 54 w) ∧ ∀ k, k < one → ¬ (tr k = nI w ∧ clash σ one k)
def cpyN (n : Nat) (f g : Nat → Int32) : Nat → Int32 := fold (fun i h => updB h i (f i)) g n
noncomputable def tryT (σ : MS) : Nat → Nat → Nat → TT → TT
  | 0, one, seen, t => cI (nI seen + σ.1 60 - nI one ≤ t.2.2) t (t.1, cpyN (cn σ 60) t.1 t.2.1, nI seen)
  | f + 1, one, seen, t => cI (nI seen + σ.1 60 - nI one ≤ t.2.2) t
      (let t1 := fold (fun w s => cI (mayS σ s.1 w one) (tryT σ f (one + 1) (seen + 1) (updB s.1 one (nI w), s.2)) s) t (cn σ 59)
       tryT σ f (one + 1) seen (updB t1.1 one (-1), t1.2))
/-- a state with these scratch rows of the table -/
def wT (σ : MS) (t : TT) : MS := (updB σ.1 61 t.2.2, fun k => bif Nat.beq k 57 then t.1 else bif Nat.beq k 58 then t.2.1 else σ.2 k)
theorem wT_57 {σ : MS} {t : TT} {i : Nat} {v : Int32} : seta (wT σ t) 57 i v = wT σ (updB t.1 i v, t.2) := by
  unfold seta wT
  refine Prod.ext rfl ?_
  funext k
  cases e : Nat.beq k 57 with
  | true => rw [Nat.eq_of_beq_eq_true e]; rfl
  | false =>
    show (bif Nat.beq k 57 then _ else (bif Nat.beq k 57 then t.1 else bif Nat.beq k 58 then t.2.1 else σ.2 k)) = (bif Nat.beq k 57 then _ else bif Nat.beq k 58 then t.2.1 else σ.2 k)
    rw [e]; rfl
theorem wT_58 {σ : MS} {t : TT} {i : Nat} {v : Int32} : seta (wT σ t) 58 i v = wT σ (t.1, updB t.2.1 i v, t.2.2) := by
  unfold seta wT
  refine Prod.ext rfl ?_
  funext k
  cases e : Nat.beq k 58 with
  | false =>
    show (bif Nat.beq k 58 then _ else (bif Nat.beq k 57 then t.1 else bif Nat.beq k 58 then t.2.1 else σ.2 k)) = (bif Nat.beq k 57 then t.1 else bif Nat.beq k 58 then updB t.2.1 i v else σ.2 k)
    rw [e]; rfl
  | true =>
    have h : k = 58 := Nat.eq_of_beq_eq_true e
    subst h
    rfl
theorem wT_61 {σ : MS} {t : TT} {v : Int32} : seti (wT σ t) 61 v = wT σ (t.1, t.2.1, v) := by
  unfold seti wT
  refine Prod.ext ?_ rfl
  funext k
  show (bif Nat.beq k 61 then v else bif Nat.beq k 61 then t.2.2 else σ.1 k) = (bif Nat.beq k 61 then v else σ.1 k)
  cases e : Nat.beq k 61 <;> rfl
theorem wT_self {σ : MS} : wT σ (σ.2 57, σ.2 58, σ.1 61) = σ := by
  refine Prod.ext ?_ ?_
  · funext k
    show (bif Nat.beq k 61 then σ.1 61 else σ.1 k) = σ.1 k
    cases e : Nat.beq k 61 with
    | false => rfl
    | true => rw [Nat.eq_of_beq_eq_true e]; rfl
  · funext k
    show (bif Nat.beq k 57 then σ.2 57 else bif Nat.beq k 58 then σ.2 58 else σ.2 k) = σ.2 k
    cases e : Nat.beq k 57 with
    | true => rw [Nat.eq_of_beq_eq_true e]; rfl
    | false =>
      cases e2 : Nat.beq k 58 with
      | true => rw [Nat.eq_of_beq_eq_true e2]; rfl
      | false => rfl
-- lots
def lotN (x : Int64) : Int64 := x * 6364136223846793005 + 1442695040888963407
/-- seed's row: the number, those not drawn yet, those drawn -/
def lotS (np : Nat) (seed : Int64) : Nat → Int64 × List Nat × List Nat
  | 0 => (seed, List.range np, [])
  | k + 1 =>
    let s := lotS np seed k
    let x := lotN s.1
    let j := (x.toUInt64 >>> 33).toNat % s.2.1.length
    (x, s.2.1.eraseIdx j, s.2.2 ++ [s.2.1.getD j 0])
-- ways back
def wayS (σ : MS) (say q : Int32) : Nat → Int32 → List Int32 → Int32 → Int32 × Int32 × Int32
  | 0, is, _, steps => (is, 0, steps)
  | f + 1, is, met, steps =>
    let word := spWord σ is say q (cn σ 16)
    let src := σ.2 13 word.toNatClampNeg
    if src = -1 then (is, 0, steps)
    else if spWord σ src say q (cn σ 16) = -1 ∨ σ.2 9 word.toNatClampNeg < σ.2 9 (spWord σ src say q (cn σ 16)).toNatClampNeg then (is, 1, steps)
    else if src ∈ is :: met then (src, 2, steps + 1)
    else wayS σ say q f src (is :: met) (steps + 1)
def pWay (σ : MS) (p say q what : Int32) : Prop := isP σ p ∧ (0 ≤ say ∧ say ≤ 29) ∧ isK σ q ∧ (0 ≤ what ∧ what ≤ 2) ∧ ¬ spWord σ p say q (cn σ 16) = -1
noncomputable def aWay (σ : MS) (p say q what : Int32) : Int32 := cI (pWay σ p say q what)
  (if what = 0 then (wayS σ say q 25 p [] 0).1 else if what = 1 then (wayS σ say q 25 p [] 0).2.1 else (wayS σ say q 25 p [] 0).2.2) (-1)
end
section
/-! the model's methods, 1: bounds, days, persons, stops, lines -/
section MDA
variable {G : Gam} {d : Nat} {k : Nat × Nat} {ad : Nat → Nat} {σ σ0 : MS} {M : Mem} {Q : Option Value → Mem → Prop}
theorem c_X12_isDay {v : Int32} (hq : Q (some (.int (bI (isD v)))) M) : CT G (d + 1) (0, 0) MX12_isDay [.int v] M Q := by
  refine CT.of rfl (Nat.le_of_ble_eq_true rfl) ?_
  refine x_iload_n dX12_isDay_0 rfl rfl ?_
  refine x_iconst (v := 0) dX12_isDay_1 (by decide) ?_
  refine x_sipush (v := 1000) dX12_isDay_2 (by decide) ?_
  refine x_cS3 dX12_isDay_5 ls_X12_145 rfl  (c_X12_isIn ?_)
  exact x_ireturn dX12_isDay_8 rfl bI_nar (hq)
theorem c_X12_isSort {v : Int32} (hq : Q (some (.int (bI (isS v)))) M) : CT G (d + 1) (0, 0) MX12_isSort [.int v] M Q := by
  refine CT.of rfl (Nat.le_of_ble_eq_true rfl) ?_
  refine x_iload_n dX12_isSort_0 rfl rfl ?_
  refine x_iconst (v := 0) dX12_isSort_1 (by decide) ?_
  refine x_bipush (v := 9) dX12_isSort_2 (by decide) ?_
  refine x_cS3 dX12_isSort_4 ls_X12_145 rfl  (c_X12_isIn ?_)
  exact x_ireturn dX12_isSort_7 rfl bI_nar (hq)
theorem c_X12_isReader {v : Int32} (hq : Q (some (.int (bI (isR v)))) M) : CT G (d + 1) (0, 0) MX12_isReader [.int v] M Q := by
  refine CT.of rfl (Nat.le_of_ble_eq_true rfl) ?_
  refine x_iload_n dX12_isReader_0 rfl rfl ?_
  refine x_iconst (v := 0) dX12_isReader_1 (by decide) ?_
  refine x_iconst (v := 5) dX12_isReader_2 (by decide) ?_
  refine x_cS3 dX12_isReader_3 ls_X12_145 rfl  (c_X12_isIn ?_)
  exact x_ireturn dX12_isReader_6 rfl bI_nar (hq)
theorem c_X12_isPerson {p : Int32} (hq : Q (some (.int (bI (isP σ p)))) (mm ad σ)) : CT G d (0, 0) MX12_isPerson [.ref (ad 99), .int p] (mm ad σ) Q := by
  refine CT.of rfl (Nat.le_of_ble_eq_true rfl) ?_
  refine x_iload_n dX12_isPerson_0 rfl rfl ?_
  refine x_if_lt (tgt := 16) dX12_isPerson_1 (by decide) (fun h1 => ?_) (fun h1 => ?_)
  · refine x_iconst (v := 0) dX12_isPerson_16 (by decide) ?_
    exact x_ireturn dX12_isPerson_17 rfl rfl (fin hq (by first | exact bI_t ⟨Int32.not_lt.mp h1, Int32.not_le.mp h9⟩ | exact bI_f (fun z => absurd h1 (Int32.not_lt.mpr z.1)) | exact bI_f (fun z => absurd h9 (Int32.not_le.mpr z.2))))
  · refine x_iload_n dX12_isPerson_4 rfl rfl ?_
    refine x_aload_n dX12_isPerson_5 rfl rfl ?_
    refine xm_geti dX12_isPerson_6 lf_X12_149 vmi_15 ?_
    refine x_icmp_ge (tgt := 16) dX12_isPerson_9 (by decide) (fun h9 => ?_) (fun h9 => ?_)
    · refine x_iconst (v := 0) dX12_isPerson_16 (by decide) ?_
      exact x_ireturn dX12_isPerson_17 rfl rfl (fin hq (by first | exact bI_t ⟨Int32.not_lt.mp h1, Int32.not_le.mp h9⟩ | exact bI_f (fun z => absurd h1 (Int32.not_lt.mpr z.1)) | exact bI_f (fun z => absurd h9 (Int32.not_le.mpr z.2))))
    · refine x_iconst (v := 1) dX12_isPerson_12 (by decide) ?_
      refine x_goto (tgt := 17) dX12_isPerson_13 (by decide) ?_
      exact x_ireturn dX12_isPerson_17 rfl rfl (fin hq (by first | exact bI_t ⟨Int32.not_lt.mp h1, Int32.not_le.mp h9⟩ | exact bI_f (fun z => absurd h1 (Int32.not_lt.mpr z.1)) | exact bI_f (fun z => absurd h9 (Int32.not_le.mpr z.2))))
theorem c_X12_isLine {p : Int32} (hq : Q (some (.int (bI (isL σ p)))) (mm ad σ)) : CT G d (0, 0) MX12_isLine [.ref (ad 99), .int p] (mm ad σ) Q := by
  refine CT.of rfl (Nat.le_of_ble_eq_true rfl) ?_
  refine x_iload_n dX12_isLine_0 rfl rfl ?_
  refine x_if_lt (tgt := 16) dX12_isLine_1 (by decide) (fun h1 => ?_) (fun h1 => ?_)
  · refine x_iconst (v := 0) dX12_isLine_16 (by decide) ?_
    exact x_ireturn dX12_isLine_17 rfl rfl (fin hq (by first | exact bI_t ⟨Int32.not_lt.mp h1, Int32.not_le.mp h9⟩ | exact bI_f (fun z => absurd h1 (Int32.not_lt.mpr z.1)) | exact bI_f (fun z => absurd h9 (Int32.not_le.mpr z.2))))
  · refine x_iload_n dX12_isLine_4 rfl rfl ?_
    refine x_aload_n dX12_isLine_5 rfl rfl ?_
    refine xm_geti dX12_isLine_6 lf_X12_152 vmi_16 ?_
    refine x_icmp_ge (tgt := 16) dX12_isLine_9 (by decide) (fun h9 => ?_) (fun h9 => ?_)
    · refine x_iconst (v := 0) dX12_isLine_16 (by decide) ?_
      exact x_ireturn dX12_isLine_17 rfl rfl (fin hq (by first | exact bI_t ⟨Int32.not_lt.mp h1, Int32.not_le.mp h9⟩ | exact bI_f (fun z => absurd h1 (Int32.not_lt.mpr z.1)) | exact bI_f (fun z => absurd h9 (Int32.not_le.mpr z.2))))
    · refine x_iconst (v := 1) dX12_isLine_12 (by decide) ?_
      refine x_goto (tgt := 17) dX12_isLine_13 (by decide) ?_
      exact x_ireturn dX12_isLine_17 rfl rfl (fin hq (by first | exact bI_t ⟨Int32.not_lt.mp h1, Int32.not_le.mp h9⟩ | exact bI_f (fun z => absurd h1 (Int32.not_lt.mpr z.1)) | exact bI_f (fun z => absurd h9 (Int32.not_le.mpr z.2))))
theorem c_X12_isLineBy {l q : Int32} (hi : adOK ad) (hc : Cnt σ) (hq : Q (some (.int (bI (isLB σ l q)))) (mm ad σ)) : CT G (d + 2) (0, 0) MX12_isLineBy [.ref (ad 99), .int l, .int q] (mm ad σ) Q := by
  obtain ⟨hl1, hl2⟩ := hc.b 16 (b := 200) (by decide)
  refine CT.of rfl (Nat.le_of_ble_eq_true rfl) ?_
  refine x_aload_n dX12_isLineBy_0 rfl rfl ?_
  refine x_iload_n dX12_isLineBy_1 rfl rfl ?_
  refine x_cV1 dX12_isLineBy_2 lv_X12_155 mm_obj rfl rfl rfl  (c_X12_isLine ?_)
  refine x_if_eq_b (tgt := 30) dX12_isLineBy_5 (by decide) (fun h5 => ?_) (fun h5 => ?_)
  · refine x_iconst (v := 0) dX12_isLineBy_30 (by decide) ?_
    exact x_ireturn dX12_isLineBy_31 rfl rfl (fin hq (by first | exact bI_t ⟨h5, h13, Int32.not_lt.mp h23⟩ | exact bI_f (fun z => h5 z.1) | exact bI_f (fun z => h13 z.2.1) | exact bI_f (fun z => absurd h23 (Int32.not_lt.mpr z.2.2))))
  · refine x_aload_n dX12_isLineBy_8 rfl rfl ?_
    refine x_iload_n dX12_isLineBy_9 rfl rfl ?_
    refine x_cV1 dX12_isLineBy_10 lv_X12_159 mm_obj rfl rfl rfl  (c_X12_isKnown ?_)
    refine x_if_eq_b (tgt := 30) dX12_isLineBy_13 (by decide) (fun h13 => ?_) (fun h13 => ?_)
    · refine x_iconst (v := 0) dX12_isLineBy_30 (by decide) ?_
      exact x_ireturn dX12_isLineBy_31 rfl rfl (fin hq (by first | exact bI_t ⟨h5, h13, Int32.not_lt.mp h23⟩ | exact bI_f (fun z => h5 z.1) | exact bI_f (fun z => h13 z.2.1) | exact bI_f (fun z => absurd h23 (Int32.not_lt.mpr z.2.2))))
    · refine x_aload_n dX12_isLineBy_16 rfl rfl ?_
      refine xm_geta dX12_isLineBy_17 lf_X12_46 vma_14 ?_
      refine x_iload_n dX12_isLineBy_20 rfl rfl ?_
      refine xm_iald 14 dX12_isLineBy_21 mf_14 hi (in_lt h5.1 h5.2 hl1 hl2 (by decide)) rfl ?_
      refine x_iload_n dX12_isLineBy_22 rfl rfl ?_
      refine x_icmp_gt (tgt := 30) dX12_isLineBy_23 (by decide) (fun h23 => ?_) (fun h23 => ?_)
      · refine x_iconst (v := 0) dX12_isLineBy_30 (by decide) ?_
        exact x_ireturn dX12_isLineBy_31 rfl rfl (fin hq (by first | exact bI_t ⟨h5, h13, Int32.not_lt.mp h23⟩ | exact bI_f (fun z => h5 z.1) | exact bI_f (fun z => h13 z.2.1) | exact bI_f (fun z => absurd h23 (Int32.not_lt.mpr z.2.2))))
      · refine x_iconst (v := 1) dX12_isLineBy_26 (by decide) ?_
        refine x_goto (tgt := 31) dX12_isLineBy_27 (by decide) ?_
        exact x_ireturn dX12_isLineBy_31 rfl rfl (fin hq (by first | exact bI_t ⟨h5, h13, Int32.not_lt.mp h23⟩ | exact bI_f (fun z => h5 z.1) | exact bI_f (fun z => h13 z.2.1) | exact bI_f (fun z => absurd h23 (Int32.not_lt.mpr z.2.2))))
theorem c_X12_days {n : Int32} (h0 : seti σ 0 0 = σ0) (hq : Q (some (.int (aDays σ0 n))) (mm ad (nDays σ0 n))) : CT G (d + 1) (0, 0) MX12_days [.ref (ad 99), .int n] (mm ad σ) Q := by
  refine CT.of rfl (Nat.le_of_ble_eq_true rfl) ?_
  refine x_aload_n dX12_days_0 rfl rfl ?_
  refine x_iconst (v := 0) dX12_days_1 (by decide) ?_
  refine xm_puti dX12_days_2 lp_X12_138 vmq_0 vmn_0 vmf_0 ?_
  rw [h0]
  refine x_iload_n dX12_days_5 rfl rfl ?_
  refine x_iconst (v := 0) dX12_days_6 (by decide) ?_
  refine x_sipush (v := 400) dX12_days_7 (by decide) ?_
  refine x_cS3 dX12_days_10 ls_X12_145 rfl  (c_X12_isIn ?_)
  refine x_if_eq_b (tgt := 28) dX12_days_13 (by decide) (fun h13 => ?_) (fun h13 => ?_)
  · refine x_iconst (v := -1) dX12_days_28 (by decide) ?_
    exact x_ireturn dX12_days_29 rfl rfl (fin_f (m := mm ad) hq (fun z => by first | exact h13 z.1 | exact h25 z.2))
  · refine x_aload_n dX12_days_16 rfl rfl ?_
    refine xm_geti dX12_days_17 lf_X12_142 vmi_1 ?_
    refine x_iload_n dX12_days_20 rfl rfl ?_
    refine x_iadd dX12_days_21 ?_
    refine x_sipush (v := 1000) dX12_days_22 (by decide) ?_
    refine x_icmp_le (tgt := 30) dX12_days_25 (by decide) (fun h25 => ?_) (fun h25 => ?_)
    · refine x_aload_n dX12_days_30 rfl rfl ?_
      refine x_dup dX12_days_31 rfl ?_
      refine xm_geti dX12_days_32 lf_X12_142 vmi_1 ?_
      refine x_iload_n dX12_days_35 rfl rfl ?_
      refine x_iadd dX12_days_36 ?_
      refine xm_puti dX12_days_37 lp_X12_142 vmq_1 vmn_1 vmf_1 ?_
      refine x_aload_n dX12_days_40 rfl rfl ?_
      refine xm_geti dX12_days_41 lf_X12_142 vmi_1 ?_
      exact x_ireturn dX12_days_44 rfl rfl (fin_t (m := mm ad) hq ⟨h13, h25⟩ rfl)
    · refine x_iconst (v := -1) dX12_days_28 (by decide) ?_
      exact x_ireturn dX12_days_29 rfl rfl (fin_f (m := mm ad) hq (fun z => by first | exact h13 z.1 | exact h25 z.2))
theorem c_X12_person {a b c : Int32} (hi : adOK ad) (h0 : seti σ 0 0 = σ0) (hc : Cnt σ0) (hq : Q (some (.int (aPerson σ0 a b c))) (mm ad (nPerson σ0 a b c))) : CT G (d + 1) (0, 0) MX12_person [.ref (ad 99), .int a, .int b, .int c] (mm ad σ) Q := by
  obtain ⟨hl1, hl2⟩ := hc.b 15 (b := 24) (by decide)
  refine CT.of rfl (Nat.le_of_ble_eq_true rfl) ?_
  refine x_aload_n dX12_person_0 rfl rfl ?_
  refine x_iconst (v := 0) dX12_person_1 (by decide) ?_
  refine xm_puti dX12_person_2 lp_X12_138 vmq_0 vmn_0 vmf_0 ?_
  rw [h0]
  refine x_aload_n dX12_person_5 rfl rfl ?_
  refine xm_geti dX12_person_6 lf_X12_149 vmi_15 ?_
  refine x_bipush (v := 24) dX12_person_9 (by decide) ?_
  refine x_icmp_eq (tgt := 45) dX12_person_11 (by decide) (fun h11 => ?_) (fun h11 => ?_)
  · refine x_iconst (v := -1) dX12_person_45 (by decide) ?_
    exact x_ireturn dX12_person_46 rfl rfl (fin_f (m := mm ad) hq (fun z => by first | exact z.1 h11 | exact h21 z.2.1 | exact h32 z.2.2.1 | exact h42 z.2.2.2))
  · refine x_iload_n dX12_person_14 rfl rfl ?_
    refine x_iconst (v := 0) dX12_person_15 (by decide) ?_
    refine x_bipush (v := 7) dX12_person_16 (by decide) ?_
    refine x_cS3 dX12_person_18 ls_X12_145 rfl  (c_X12_isIn ?_)
    refine x_if_eq_b (tgt := 45) dX12_person_21 (by decide) (fun h21 => ?_) (fun h21 => ?_)
    · refine x_iconst (v := -1) dX12_person_45 (by decide) ?_
      exact x_ireturn dX12_person_46 rfl rfl (fin_f (m := mm ad) hq (fun z => by first | exact z.1 h11 | exact h21 z.2.1 | exact h32 z.2.2.1 | exact h42 z.2.2.2))
    · refine x_iload_n dX12_person_24 rfl rfl ?_
      refine x_bipush (v := 10) dX12_person_25 (by decide) ?_
      refine x_bipush (v := 99) dX12_person_27 (by decide) ?_
      refine x_cS3 dX12_person_29 ls_X12_145 rfl  (c_X12_isIn ?_)
      refine x_if_eq_b (tgt := 45) dX12_person_32 (by decide) (fun h32 => ?_) (fun h32 => ?_)
      · refine x_iconst (v := -1) dX12_person_45 (by decide) ?_
        exact x_ireturn dX12_person_46 rfl rfl (fin_f (m := mm ad) hq (fun z => by first | exact z.1 h11 | exact h21 z.2.1 | exact h32 z.2.2.1 | exact h42 z.2.2.2))
      · refine x_iload_n dX12_person_35 rfl rfl ?_
        refine x_iconst (v := 0) dX12_person_36 (by decide) ?_
        refine x_bipush (v := 7) dX12_person_37 (by decide) ?_
        refine x_cS3 dX12_person_39 ls_X12_145 rfl  (c_X12_isIn ?_)
        refine x_if_ne_b (tgt := 47) dX12_person_42 (by decide) (fun h42 => ?_) (fun h42 => ?_)
        · have hin := in_cnt hl1 hl2 (v := 24) rfl h11 (by decide)
          refine x_aload_n dX12_person_47 rfl rfl ?_
          refine xm_geta dX12_person_48 lf_X12_9 vma_2 ?_
          refine x_aload_n dX12_person_51 rfl rfl ?_
          refine xm_geti dX12_person_52 lf_X12_149 vmi_15 ?_
          refine x_iload_n dX12_person_55 rfl rfl ?_
          refine xm_iast 2 dX12_person_56 mf_2 hi hin rfl ?_
          refine x_aload_n dX12_person_57 rfl rfl ?_
          refine xm_geta dX12_person_58 lf_X12_13 vma_3 ?_
          refine x_aload_n dX12_person_61 rfl rfl ?_
          refine xm_geti dX12_person_62 lf_X12_149 vmi_15 ?_
          refine x_iload_n dX12_person_65 rfl rfl ?_
          refine xm_iast 3 dX12_person_66 mf_3 hi hin rfl ?_
          refine x_aload_n dX12_person_67 rfl rfl ?_
          refine xm_geta dX12_person_68 lf_X12_16 vma_4 ?_
          refine x_aload_n dX12_person_71 rfl rfl ?_
          refine xm_geti dX12_person_72 lf_X12_149 vmi_15 ?_
          refine x_iload_n dX12_person_75 rfl rfl ?_
          refine xm_iast 4 dX12_person_76 mf_4 hi hin rfl ?_
          refine x_aload_n dX12_person_77 rfl rfl ?_
          refine x_dup dX12_person_78 rfl ?_
          refine xm_geti dX12_person_79 lf_X12_149 vmi_15 ?_
          refine x_iconst (v := 1) dX12_person_82 (by decide) ?_
          refine x_iadd dX12_person_83 ?_
          refine xm_puti dX12_person_84 lp_X12_149 vmq_15 vmn_15 vmf_15 ?_
          refine x_aload_n dX12_person_87 rfl rfl ?_
          refine xm_geti dX12_person_88 lf_X12_149 vmi_15 ?_
          refine x_iconst (v := 1) dX12_person_91 (by decide) ?_
          refine x_isub dX12_person_92 ?_
          exact x_ireturn dX12_person_93 rfl rfl (fin_t (m := mm ad) hq ⟨h11, h21, h32, h42⟩ (add_sub1 _).symm)
        · refine x_iconst (v := -1) dX12_person_45 (by decide) ?_
          exact x_ireturn dX12_person_46 rfl rfl (fin_f (m := mm ad) hq (fun z => by first | exact z.1 h11 | exact h21 z.2.1 | exact h32 z.2.2.1 | exact h42 z.2.2.2))
theorem c_X12_stopsFrom {p q : Int32} (hi : adOK ad) (hc : Cnt σ) (hq : Q (some (.int (spStop σ p q (cn σ 17)))) (mm ad σ)) : CT G d (0, 0) MX12_stopsFrom [.ref (ad 99), .int p, .int q] (mm ad σ) Q := by
  obtain ⟨hl1, hl2⟩ := hc.b 17 (b := 60) (by decide)
  refine CT.of rfl (Nat.le_of_ble_eq_true rfl) ?_
  refine x_iconst (v := -1) dX12_stopsFrom_0 (by decide) ?_
  refine x_istore_n dX12_stopsFrom_1 rfl (by decide) ?_
  refine x_iconst (v := 0) dX12_stopsFrom_2 (by decide) ?_
  refine x_istore dX12_stopsFrom_3 (by decide) ?_
  refine x_loc [(0, .ref (ad 99)), (1, .int p), (2, .int q), (3, .int (spStop σ p q 0)), (4, .int (nI 0))] ⟨rfl, rfl, rfl, rfl, rfl, trivial⟩ ?_
  refine loop_up (P := fun i => XJ G d (0, 0) MX12_stopsFrom (mm ad σ) [(0, .ref (ad 99)), (1, .int p), (2, .int q), (3, .int (spStop σ p q i)), (4, .int (nI i))] [] 5 Q) (n := cn σ 17) ?_ ?_ 0 (Nat.zero_le _)
  · refine x_iload dX12_stopsFrom_5 rfl ?_
    refine x_aload_n dX12_stopsFrom_7 rfl rfl ?_
    refine xm_geti dX12_stopsFrom_8 lf_X12_162 vmi_17 ?_
    refine x_icmp_ge (tgt := 50) dX12_stopsFrom_11 (by decide) (fun _ => ?_) (fun z => absurd (loopT hl1) z)
    refine x_iload_n dX12_stopsFrom_50 rfl rfl ?_
    exact x_ireturn dX12_stopsFrom_51 rfl rfl (hq)
  · intro i hlt ih
    have hin : vp_in (nI i) 60 := vp_in_nI (by omega) (by decide)
    have hcl : (nI i).toNatClampNeg = i := nI_clamp (by omega)
    refine x_iload dX12_stopsFrom_5 rfl ?_
    refine x_aload_n dX12_stopsFrom_7 rfl rfl ?_
    refine xm_geti dX12_stopsFrom_8 lf_X12_162 vmi_17 ?_
    refine x_icmp_ge (tgt := 50) dX12_stopsFrom_11 (by decide) (fun z => absurd z (loopF hl1 hlt (by omega))) (fun _ => ?_)
    refine x_aload_n dX12_stopsFrom_14 rfl rfl ?_
    refine xm_geta dX12_stopsFrom_15 lf_X12_19 vma_5 ?_
    refine x_iload dX12_stopsFrom_18 rfl ?_
    refine xm_iald 5 dX12_stopsFrom_20 mf_5 hi hin hcl ?_
    refine x_iload_n dX12_stopsFrom_21 rfl rfl ?_
    refine x_icmp_ne (tgt := 44) dX12_stopsFrom_22 (by decide) (fun h22 => ?_) (fun h22 => ?_)
    · refine x_iinc (c := 1) dX12_stopsFrom_44 rfl (by decide) ?_
      refine x_goto (tgt := 5) dX12_stopsFrom_47 (by decide) ?_
      refine x_loc _ (?_ : lle _ _) ih
      refine ⟨rfl, rfl, rfl, ?_, ?_, trivial⟩
      · show some (Value.int _) = some (Value.int (if σ.2 5 i = p ∧ σ.2 7 i ≤ q then σ.2 6 i else spStop σ p q i))
        clear ih hq; grind
      · show some (Value.int _) = some (Value.int (nI (i + 1)))
        rw [← nI_1]
    · refine x_aload_n dX12_stopsFrom_25 rfl rfl ?_
      refine xm_geta dX12_stopsFrom_26 lf_X12_25 vma_7 ?_
      refine x_iload dX12_stopsFrom_29 rfl ?_
      refine xm_iald 7 dX12_stopsFrom_31 mf_7 hi hin hcl ?_
      refine x_iload_n dX12_stopsFrom_32 rfl rfl ?_
      refine x_icmp_gt (tgt := 44) dX12_stopsFrom_33 (by decide) (fun h33 => ?_) (fun h33 => ?_)
      · refine x_iinc (c := 1) dX12_stopsFrom_44 rfl (by decide) ?_
        refine x_goto (tgt := 5) dX12_stopsFrom_47 (by decide) ?_
        refine x_loc _ (?_ : lle _ _) ih
        refine ⟨rfl, rfl, rfl, ?_, ?_, trivial⟩
        · show some (Value.int _) = some (Value.int (if σ.2 5 i = p ∧ σ.2 7 i ≤ q then σ.2 6 i else spStop σ p q i))
          clear ih hq; grind
        · show some (Value.int _) = some (Value.int (nI (i + 1)))
          rw [← nI_1]
      · refine x_aload_n dX12_stopsFrom_36 rfl rfl ?_
        refine xm_geta dX12_stopsFrom_37 lf_X12_22 vma_6 ?_
        refine x_iload dX12_stopsFrom_40 rfl ?_
        refine xm_iald 6 dX12_stopsFrom_42 mf_6 hi hin hcl ?_
        refine x_istore_n dX12_stopsFrom_43 rfl (by decide) ?_
        refine x_iinc (c := 1) dX12_stopsFrom_44 rfl (by decide) ?_
        refine x_goto (tgt := 5) dX12_stopsFrom_47 (by decide) ?_
        refine x_loc _ (?_ : lle _ _) ih
        refine ⟨rfl, rfl, rfl, ?_, ?_, trivial⟩
        · show some (Value.int _) = some (Value.int (if σ.2 5 i = p ∧ σ.2 7 i ≤ q then σ.2 6 i else spStop σ p q i))
          clear ih hq; grind
        · show some (Value.int _) = some (Value.int (nI (i + 1)))
          rw [← nI_1]
theorem c_X12_stop {p day : Int32} (hi : adOK ad) (h0 : seti σ 0 0 = σ0) (hc : Cnt σ0) (hq : Q (some (.int (aStop σ0 p day))) (mm ad (nStop σ0 p day))) : CT G (d + 2) (0, 0) MX12_stop [.ref (ad 99), .int p, .int day] (mm ad σ) Q := by
  obtain ⟨hl1, hl2⟩ := hc.b 17 (b := 60) (by decide)
  refine CT.of rfl (Nat.le_of_ble_eq_true rfl) ?_
  refine x_aload_n dX12_stop_0 rfl rfl ?_
  refine x_iconst (v := 0) dX12_stop_1 (by decide) ?_
  refine xm_puti dX12_stop_2 lp_X12_138 vmq_0 vmn_0 vmf_0 ?_
  rw [h0]
  refine x_aload_n dX12_stop_5 rfl rfl ?_
  refine xm_geti dX12_stop_6 lf_X12_162 vmi_17 ?_
  refine x_bipush (v := 60) dX12_stop_9 (by decide) ?_
  refine x_icmp_eq (tgt := 29) dX12_stop_11 (by decide) (fun h11 => ?_) (fun h11 => ?_)
  · refine x_iconst (v := 0) dX12_stop_29 (by decide) ?_
    exact x_ireturn dX12_stop_30 rfl rfl (fbn_f (m := mm ad) hq (fun z => by first | exact z.1 h11 | exact h19 z.2.1 | exact h26 z.2.2))
  · refine x_aload_n dX12_stop_14 rfl rfl ?_
    refine x_iload_n dX12_stop_15 rfl rfl ?_
    refine x_cV1 dX12_stop_16 lv_X12_165 mm_obj rfl rfl rfl  (c_X12_isPerson ?_)
    refine x_if_eq_b (tgt := 29) dX12_stop_19 (by decide) (fun h19 => ?_) (fun h19 => ?_)
    · refine x_iconst (v := 0) dX12_stop_29 (by decide) ?_
      exact x_ireturn dX12_stop_30 rfl rfl (fbn_f (m := mm ad) hq (fun z => by first | exact z.1 h11 | exact h19 z.2.1 | exact h26 z.2.2))
    · refine x_iload_n dX12_stop_22 rfl rfl ?_
      refine x_cS1 dX12_stop_23 ls_X12_175 rfl  (c_X12_isDay ?_)
      refine x_if_ne_b (tgt := 31) dX12_stop_26 (by decide) (fun h26 => ?_) (fun h26 => ?_)
      · have hin := in_cnt hl1 hl2 (v := 60) rfl h11 (by decide)
        refine x_aload_n dX12_stop_31 rfl rfl ?_
        refine xm_geta dX12_stop_32 lf_X12_19 vma_5 ?_
        refine x_aload_n dX12_stop_35 rfl rfl ?_
        refine xm_geti dX12_stop_36 lf_X12_162 vmi_17 ?_
        refine x_iload_n dX12_stop_39 rfl rfl ?_
        refine xm_iast 5 dX12_stop_40 mf_5 hi hin rfl ?_
        refine x_aload_n dX12_stop_41 rfl rfl ?_
        refine xm_geta dX12_stop_42 lf_X12_22 vma_6 ?_
        refine x_aload_n dX12_stop_45 rfl rfl ?_
        refine xm_geti dX12_stop_46 lf_X12_162 vmi_17 ?_
        refine x_iload_n dX12_stop_49 rfl rfl ?_
        refine xm_iast 6 dX12_stop_50 mf_6 hi hin rfl ?_
        refine x_aload_n dX12_stop_51 rfl rfl ?_
        refine xm_geta dX12_stop_52 lf_X12_25 vma_7 ?_
        refine x_aload_n dX12_stop_55 rfl rfl ?_
        refine xm_geti dX12_stop_56 lf_X12_162 vmi_17 ?_
        refine x_aload_n dX12_stop_59 rfl rfl ?_
        refine xm_geti dX12_stop_60 lf_X12_142 vmi_1 ?_
        refine xm_iast 7 dX12_stop_63 mf_7 hi hin rfl ?_
        refine x_aload_n dX12_stop_64 rfl rfl ?_
        refine x_dup dX12_stop_65 rfl ?_
        refine xm_geti dX12_stop_66 lf_X12_162 vmi_17 ?_
        refine x_iconst (v := 1) dX12_stop_69 (by decide) ?_
        refine x_iadd dX12_stop_70 ?_
        refine xm_puti dX12_stop_71 lp_X12_162 vmq_17 vmn_17 vmf_17 ?_
        refine x_iconst (v := 1) dX12_stop_74 (by decide) ?_
        exact x_ireturn dX12_stop_75 rfl rfl (fbn_t (m := mm ad) hq ⟨h11, h19, h26⟩)
      · refine x_iconst (v := 0) dX12_stop_29 (by decide) ?_
        exact x_ireturn dX12_stop_30 rfl rfl (fbn_f (m := mm ad) hq (fun z => by first | exact z.1 h11 | exact h19 z.2.1 | exact h26 z.2.2))
theorem c_X12_stopped {p q : Int32} (hi : adOK ad) (h0 : seti σ 0 0 = σ0) (hc : Cnt σ0) (hq : Q (some (.int (aStopped σ0 p q))) (mm ad σ0)) : CT G (d + 2) (0, 0) MX12_stopped [.ref (ad 99), .int p, .int q] (mm ad σ) Q := by
  refine CT.of rfl (Nat.le_of_ble_eq_true rfl) ?_
  refine x_aload_n dX12_stopped_0 rfl rfl ?_
  refine x_iconst (v := 0) dX12_stopped_1 (by decide) ?_
  refine xm_puti dX12_stopped_2 lp_X12_138 vmq_0 vmn_0 vmf_0 ?_
  rw [h0]
  refine x_aload_n dX12_stopped_5 rfl rfl ?_
  refine x_iload_n dX12_stopped_6 rfl rfl ?_
  refine x_cV1 dX12_stopped_7 lv_X12_165 mm_obj rfl rfl rfl  (c_X12_isPerson ?_)
  refine x_if_eq_b (tgt := 30) dX12_stopped_10 (by decide) (fun h10 => ?_) (fun h10 => ?_)
  · refine x_iconst (v := -1) dX12_stopped_30 (by decide) ?_
    exact x_ireturn dX12_stopped_31 rfl rfl (by first | exact fan_t hq ⟨h10, h18⟩ | exact fan_f hq (fun z => h10 z.1) | exact fan_f hq (fun z => h18 z.2))
  · refine x_aload_n dX12_stopped_13 rfl rfl ?_
    refine x_iload_n dX12_stopped_14 rfl rfl ?_
    refine x_cV1 dX12_stopped_15 lv_X12_159 mm_obj rfl rfl rfl  (c_X12_isKnown ?_)
    refine x_if_eq_b (tgt := 30) dX12_stopped_18 (by decide) (fun h18 => ?_) (fun h18 => ?_)
    · refine x_iconst (v := -1) dX12_stopped_30 (by decide) ?_
      exact x_ireturn dX12_stopped_31 rfl rfl (by first | exact fan_t hq ⟨h10, h18⟩ | exact fan_f hq (fun z => h10 z.1) | exact fan_f hq (fun z => h18 z.2))
    · refine x_aload_n dX12_stopped_21 rfl rfl ?_
      refine x_iload_n dX12_stopped_22 rfl rfl ?_
      refine x_iload_n dX12_stopped_23 rfl rfl ?_
      refine x_cV2 dX12_stopped_24 lv_X12_171 mm_obj rfl rfl rfl  (c_X12_stopsFrom hi hc ?_)
      refine x_goto (tgt := 31) dX12_stopped_27 (by decide) ?_
      exact x_ireturn dX12_stopped_31 rfl rfl (by first | exact fan_t hq ⟨h10, h18⟩ | exact fan_f hq (fun z => h10 z.1) | exact fan_f hq (fun z => h18 z.2))
theorem c_X12_line {p day sort mood say src : Int32} (hi : adOK ad) (h0 : seti σ 0 0 = σ0) (hc : Cnt σ0) (hq : Q (some (.int (aLine σ0 p day sort mood say src))) (mm ad (nLine σ0 p day sort mood say src))) : CT G (d + 2) (0, 0) MX12_line [.ref (ad 99), .int p, .int day, .int sort, .int mood, .int say, .int src] (mm ad σ) Q := by
  obtain ⟨hl1, hl2⟩ := hc.b 16 (b := 200) (by decide)
  refine CT.of rfl (Nat.le_of_ble_eq_true rfl) ?_
  refine x_aload_n dX12_line_0 rfl rfl ?_
  refine x_iconst (v := 0) dX12_line_1 (by decide) ?_
  refine xm_puti dX12_line_2 lp_X12_138 vmq_0 vmn_0 vmf_0 ?_
  rw [h0]
  refine x_aload_n dX12_line_5 rfl rfl ?_
  refine xm_geti dX12_line_6 lf_X12_152 vmi_16 ?_
  refine x_sipush (v := 200) dX12_line_9 (by decide) ?_
  refine x_icmp_eq (tgt := 65) dX12_line_12 (by decide) (fun h12 => ?_) (fun h12 => ?_)
  · refine x_iconst (v := -1) dX12_line_65 (by decide) ?_
    exact x_ireturn dX12_line_66 rfl rfl (fin_f (m := mm ad) hq (fun z => by first | exact z.1 h12 | exact h20 z.2.1 | exact h32 z.2.2.1 | exact h39 z.2.2.2.1 | exact h51 z.2.2.2.2.1 | exact h62 z.2.2.2.2.2.1))
  · refine x_aload_n dX12_line_15 rfl rfl ?_
    refine x_iload_n dX12_line_16 rfl rfl ?_
    refine x_cV1 dX12_line_17 lv_X12_165 mm_obj rfl rfl rfl  (c_X12_isPerson ?_)
    refine x_if_eq_b (tgt := 65) dX12_line_20 (by decide) (fun h20 => ?_) (fun h20 => ?_)
    · refine x_iconst (v := -1) dX12_line_65 (by decide) ?_
      exact x_ireturn dX12_line_66 rfl rfl (fin_f (m := mm ad) hq (fun z => by first | exact z.1 h12 | exact h20 z.2.1 | exact h32 z.2.2.1 | exact h39 z.2.2.2.1 | exact h51 z.2.2.2.2.1 | exact h62 z.2.2.2.2.2.1))
    · refine x_iload_n dX12_line_23 rfl rfl ?_
      refine x_iconst (v := 0) dX12_line_24 (by decide) ?_
      refine x_aload_n dX12_line_25 rfl rfl ?_
      refine xm_geti dX12_line_26 lf_X12_142 vmi_1 ?_
      refine x_cS3 dX12_line_29 ls_X12_145 rfl  (c_X12_isIn ?_)
      refine x_if_eq_b (tgt := 65) dX12_line_32 (by decide) (fun h32 => ?_) (fun h32 => ?_)
      · refine x_iconst (v := -1) dX12_line_65 (by decide) ?_
        exact x_ireturn dX12_line_66 rfl rfl (fin_f (m := mm ad) hq (fun z => by first | exact z.1 h12 | exact h20 z.2.1 | exact h32 z.2.2.1 | exact h39 z.2.2.2.1 | exact h51 z.2.2.2.2.1 | exact h62 z.2.2.2.2.2.1))
      · refine x_iload_n dX12_line_35 rfl rfl ?_
        refine x_cS1 dX12_line_36 ls_X12_168 rfl  (c_X12_isSort ?_)
        refine x_if_eq_b (tgt := 65) dX12_line_39 (by decide) (fun h39 => ?_) (fun h39 => ?_)
        · refine x_iconst (v := -1) dX12_line_65 (by decide) ?_
          exact x_ireturn dX12_line_66 rfl rfl (fin_f (m := mm ad) hq (fun z => by first | exact z.1 h12 | exact h20 z.2.1 | exact h32 z.2.2.1 | exact h39 z.2.2.2.1 | exact h51 z.2.2.2.2.1 | exact h62 z.2.2.2.2.2.1))
        · refine x_iload dX12_line_42 rfl ?_
          refine x_bipush (v := -9) dX12_line_44 (by decide) ?_
          refine x_bipush (v := 9) dX12_line_46 (by decide) ?_
          refine x_cS3 dX12_line_48 ls_X12_145 rfl  (c_X12_isIn ?_)
          refine x_if_eq_b (tgt := 65) dX12_line_51 (by decide) (fun h51 => ?_) (fun h51 => ?_)
          · refine x_iconst (v := -1) dX12_line_65 (by decide) ?_
            exact x_ireturn dX12_line_66 rfl rfl (fin_f (m := mm ad) hq (fun z => by first | exact z.1 h12 | exact h20 z.2.1 | exact h32 z.2.2.1 | exact h39 z.2.2.2.1 | exact h51 z.2.2.2.2.1 | exact h62 z.2.2.2.2.2.1))
          · refine x_iload dX12_line_54 rfl ?_
            refine x_iconst (v := -1) dX12_line_56 (by decide) ?_
            refine x_bipush (v := 29) dX12_line_57 (by decide) ?_
            refine x_cS3 dX12_line_59 ls_X12_145 rfl  (c_X12_isIn ?_)
            refine x_if_ne_b (tgt := 67) dX12_line_62 (by decide) (fun h62 => ?_) (fun h62 => ?_)
            · have hin := in_cnt hl1 hl2 (v := 200) rfl h12 (by decide)
              refine x_iload dX12_line_67 rfl ?_
              refine x_iconst (v := -1) dX12_line_69 (by decide) ?_
              refine x_icmp_eq (tgt := 96) dX12_line_70 (by decide) (fun h70 => ?_) (fun h70 => ?_)
              · refine x_aload_n dX12_line_96 rfl rfl ?_
                refine x_iload_n dX12_line_97 rfl rfl ?_
                refine x_aload_n dX12_line_98 rfl rfl ?_
                refine xm_geti dX12_line_99 lf_X12_142 vmi_1 ?_
                refine x_cV2 dX12_line_102 lv_X12_171 mm_obj rfl rfl rfl  (c_X12_stopsFrom hi hc ?_)
                refine x_istore dX12_line_105 (by decide) ?_
                refine x_iload dX12_line_107 rfl ?_
                refine x_iconst (v := -1) dX12_line_109 (by decide) ?_
                refine x_icmp_eq (tgt := 121) dX12_line_110 (by decide) (fun h110 => ?_) (fun h110 => ?_)
                · refine x_aload_n dX12_line_121 rfl rfl ?_
                  refine xm_geta dX12_line_122 lf_X12_28 vma_8 ?_
                  refine x_aload_n dX12_line_125 rfl rfl ?_
                  refine xm_geti dX12_line_126 lf_X12_152 vmi_16 ?_
                  refine x_iload_n dX12_line_129 rfl rfl ?_
                  refine xm_iast 8 dX12_line_130 mf_8 hi hin rfl ?_
                  refine x_aload_n dX12_line_131 rfl rfl ?_
                  refine xm_geta dX12_line_132 lf_X12_31 vma_9 ?_
                  refine x_aload_n dX12_line_135 rfl rfl ?_
                  refine xm_geti dX12_line_136 lf_X12_152 vmi_16 ?_
                  refine x_iload_n dX12_line_139 rfl rfl ?_
                  refine xm_iast 9 dX12_line_140 mf_9 hi hin rfl ?_
                  refine x_aload_n dX12_line_141 rfl rfl ?_
                  refine xm_geta dX12_line_142 lf_X12_34 vma_10 ?_
                  refine x_aload_n dX12_line_145 rfl rfl ?_
                  refine xm_geti dX12_line_146 lf_X12_152 vmi_16 ?_
                  refine x_iload_n dX12_line_149 rfl rfl ?_
                  refine xm_iast 10 dX12_line_150 mf_10 hi hin rfl ?_
                  refine x_aload_n dX12_line_151 rfl rfl ?_
                  refine xm_geta dX12_line_152 lf_X12_37 vma_11 ?_
                  refine x_aload_n dX12_line_155 rfl rfl ?_
                  refine xm_geti dX12_line_156 lf_X12_152 vmi_16 ?_
                  refine x_iload dX12_line_159 rfl ?_
                  refine xm_iast 11 dX12_line_161 mf_11 hi hin rfl ?_
                  refine x_aload_n dX12_line_162 rfl rfl ?_
                  refine xm_geta dX12_line_163 lf_X12_40 vma_12 ?_
                  refine x_aload_n dX12_line_166 rfl rfl ?_
                  refine xm_geti dX12_line_167 lf_X12_152 vmi_16 ?_
                  refine x_iload dX12_line_170 rfl ?_
                  refine xm_iast 12 dX12_line_172 mf_12 hi hin rfl ?_
                  refine x_aload_n dX12_line_173 rfl rfl ?_
                  refine xm_geta dX12_line_174 lf_X12_43 vma_13 ?_
                  refine x_aload_n dX12_line_177 rfl rfl ?_
                  refine xm_geti dX12_line_178 lf_X12_152 vmi_16 ?_
                  refine x_iload dX12_line_181 rfl ?_
                  refine xm_iast 13 dX12_line_183 mf_13 hi hin rfl ?_
                  refine x_aload_n dX12_line_184 rfl rfl ?_
                  refine xm_geta dX12_line_185 lf_X12_46 vma_14 ?_
                  refine x_aload_n dX12_line_188 rfl rfl ?_
                  refine xm_geti dX12_line_189 lf_X12_152 vmi_16 ?_
                  refine x_aload_n dX12_line_192 rfl rfl ?_
                  refine xm_geti dX12_line_193 lf_X12_142 vmi_1 ?_
                  refine xm_iast 14 dX12_line_196 mf_14 hi hin rfl ?_
                  refine x_aload_n dX12_line_197 rfl rfl ?_
                  refine x_dup dX12_line_198 rfl ?_
                  refine xm_geti dX12_line_199 lf_X12_152 vmi_16 ?_
                  refine x_iconst (v := 1) dX12_line_202 (by decide) ?_
                  refine x_iadd dX12_line_203 ?_
                  refine xm_puti dX12_line_204 lp_X12_152 vmq_16 vmn_16 vmf_16 ?_
                  refine x_aload_n dX12_line_207 rfl rfl ?_
                  refine xm_geti dX12_line_208 lf_X12_152 vmi_16 ?_
                  refine x_iconst (v := 1) dX12_line_211 (by decide) ?_
                  refine x_isub dX12_line_212 ?_
                  exact x_ireturn dX12_line_213 rfl rfl (fin_t (m := mm ad) hq ⟨h12, h20, h32, h39, h51, h62, by first | exact Or.inl h70 | exact Or.inr ⟨h79, h85, h91⟩, fun z => by first | exact z.1 h110 | exact absurd h116 (Int32.not_lt.mpr z.2)⟩ (add_sub1 _).symm)
                · refine x_iload dX12_line_113 rfl ?_
                  refine x_iload_n dX12_line_115 rfl rfl ?_
                  refine x_icmp_gt (tgt := 121) dX12_line_116 (by decide) (fun h116 => ?_) (fun h116 => ?_)
                  · refine x_aload_n dX12_line_121 rfl rfl ?_
                    refine xm_geta dX12_line_122 lf_X12_28 vma_8 ?_
                    refine x_aload_n dX12_line_125 rfl rfl ?_
                    refine xm_geti dX12_line_126 lf_X12_152 vmi_16 ?_
                    refine x_iload_n dX12_line_129 rfl rfl ?_
                    refine xm_iast 8 dX12_line_130 mf_8 hi hin rfl ?_
                    refine x_aload_n dX12_line_131 rfl rfl ?_
                    refine xm_geta dX12_line_132 lf_X12_31 vma_9 ?_
                    refine x_aload_n dX12_line_135 rfl rfl ?_
                    refine xm_geti dX12_line_136 lf_X12_152 vmi_16 ?_
                    refine x_iload_n dX12_line_139 rfl rfl ?_
                    refine xm_iast 9 dX12_line_140 mf_9 hi hin rfl ?_
                    refine x_aload_n dX12_line_141 rfl rfl ?_
                    refine xm_geta dX12_line_142 lf_X12_34 vma_10 ?_
                    refine x_aload_n dX12_line_145 rfl rfl ?_
                    refine xm_geti dX12_line_146 lf_X12_152 vmi_16 ?_
                    refine x_iload_n dX12_line_149 rfl rfl ?_
                    refine xm_iast 10 dX12_line_150 mf_10 hi hin rfl ?_
                    refine x_aload_n dX12_line_151 rfl rfl ?_
                    refine xm_geta dX12_line_152 lf_X12_37 vma_11 ?_
                    refine x_aload_n dX12_line_155 rfl rfl ?_
                    refine xm_geti dX12_line_156 lf_X12_152 vmi_16 ?_
                    refine x_iload dX12_line_159 rfl ?_
                    refine xm_iast 11 dX12_line_161 mf_11 hi hin rfl ?_
                    refine x_aload_n dX12_line_162 rfl rfl ?_
                    refine xm_geta dX12_line_163 lf_X12_40 vma_12 ?_
                    refine x_aload_n dX12_line_166 rfl rfl ?_
                    refine xm_geti dX12_line_167 lf_X12_152 vmi_16 ?_
                    refine x_iload dX12_line_170 rfl ?_
                    refine xm_iast 12 dX12_line_172 mf_12 hi hin rfl ?_
                    refine x_aload_n dX12_line_173 rfl rfl ?_
                    refine xm_geta dX12_line_174 lf_X12_43 vma_13 ?_
                    refine x_aload_n dX12_line_177 rfl rfl ?_
                    refine xm_geti dX12_line_178 lf_X12_152 vmi_16 ?_
                    refine x_iload dX12_line_181 rfl ?_
                    refine xm_iast 13 dX12_line_183 mf_13 hi hin rfl ?_
                    refine x_aload_n dX12_line_184 rfl rfl ?_
                    refine xm_geta dX12_line_185 lf_X12_46 vma_14 ?_
                    refine x_aload_n dX12_line_188 rfl rfl ?_
                    refine xm_geti dX12_line_189 lf_X12_152 vmi_16 ?_
                    refine x_aload_n dX12_line_192 rfl rfl ?_
                    refine xm_geti dX12_line_193 lf_X12_142 vmi_1 ?_
                    refine xm_iast 14 dX12_line_196 mf_14 hi hin rfl ?_
                    refine x_aload_n dX12_line_197 rfl rfl ?_
                    refine x_dup dX12_line_198 rfl ?_
                    refine xm_geti dX12_line_199 lf_X12_152 vmi_16 ?_
                    refine x_iconst (v := 1) dX12_line_202 (by decide) ?_
                    refine x_iadd dX12_line_203 ?_
                    refine xm_puti dX12_line_204 lp_X12_152 vmq_16 vmn_16 vmf_16 ?_
                    refine x_aload_n dX12_line_207 rfl rfl ?_
                    refine xm_geti dX12_line_208 lf_X12_152 vmi_16 ?_
                    refine x_iconst (v := 1) dX12_line_211 (by decide) ?_
                    refine x_isub dX12_line_212 ?_
                    exact x_ireturn dX12_line_213 rfl rfl (fin_t (m := mm ad) hq ⟨h12, h20, h32, h39, h51, h62, by first | exact Or.inl h70 | exact Or.inr ⟨h79, h85, h91⟩, fun z => by first | exact z.1 h110 | exact absurd h116 (Int32.not_lt.mpr z.2)⟩ (add_sub1 _).symm)
                  · refine x_iconst (v := -1) dX12_line_119 (by decide) ?_
                    exact x_ireturn dX12_line_120 rfl rfl (fin_f (m := mm ad) hq (fun z => z.2.2.2.2.2.2.2 ⟨h110, Int32.not_lt.mp h116⟩))
              · refine x_aload_n dX12_line_73 rfl rfl ?_
                refine x_iload dX12_line_74 rfl ?_
                refine x_cV1 dX12_line_76 lv_X12_165 mm_obj rfl rfl rfl  (c_X12_isPerson ?_)
                refine x_if_eq_b (tgt := 94) dX12_line_79 (by decide) (fun h79 => ?_) (fun h79 => ?_)
                · refine x_iconst (v := -1) dX12_line_94 (by decide) ?_
                  exact x_ireturn dX12_line_95 rfl rfl (fin_f (m := mm ad) hq (fun z => by
rcases z.2.2.2.2.2.2.1 with y | y
· exact h70 y
· first | exact h79 y.1 | exact y.2.1 h85 | exact y.2.2 h91))
                · refine x_iload dX12_line_82 rfl ?_
                  refine x_iload_n dX12_line_84 rfl rfl ?_
                  refine x_icmp_eq (tgt := 94) dX12_line_85 (by decide) (fun h85 => ?_) (fun h85 => ?_)
                  · refine x_iconst (v := -1) dX12_line_94 (by decide) ?_
                    exact x_ireturn dX12_line_95 rfl rfl (fin_f (m := mm ad) hq (fun z => by
rcases z.2.2.2.2.2.2.1 with y | y
· exact h70 y
· first | exact h79 y.1 | exact y.2.1 h85 | exact y.2.2 h91))
                  · refine x_iload dX12_line_88 rfl ?_
                    refine x_iconst (v := -1) dX12_line_90 (by decide) ?_
                    refine x_icmp_ne (tgt := 96) dX12_line_91 (by decide) (fun h91 => ?_) (fun h91 => ?_)
                    · refine x_aload_n dX12_line_96 rfl rfl ?_
                      refine x_iload_n dX12_line_97 rfl rfl ?_
                      refine x_aload_n dX12_line_98 rfl rfl ?_
                      refine xm_geti dX12_line_99 lf_X12_142 vmi_1 ?_
                      refine x_cV2 dX12_line_102 lv_X12_171 mm_obj rfl rfl rfl  (c_X12_stopsFrom hi hc ?_)
                      refine x_istore dX12_line_105 (by decide) ?_
                      refine x_iload dX12_line_107 rfl ?_
                      refine x_iconst (v := -1) dX12_line_109 (by decide) ?_
                      refine x_icmp_eq (tgt := 121) dX12_line_110 (by decide) (fun h110 => ?_) (fun h110 => ?_)
                      · refine x_aload_n dX12_line_121 rfl rfl ?_
                        refine xm_geta dX12_line_122 lf_X12_28 vma_8 ?_
                        refine x_aload_n dX12_line_125 rfl rfl ?_
                        refine xm_geti dX12_line_126 lf_X12_152 vmi_16 ?_
                        refine x_iload_n dX12_line_129 rfl rfl ?_
                        refine xm_iast 8 dX12_line_130 mf_8 hi hin rfl ?_
                        refine x_aload_n dX12_line_131 rfl rfl ?_
                        refine xm_geta dX12_line_132 lf_X12_31 vma_9 ?_
                        refine x_aload_n dX12_line_135 rfl rfl ?_
                        refine xm_geti dX12_line_136 lf_X12_152 vmi_16 ?_
                        refine x_iload_n dX12_line_139 rfl rfl ?_
                        refine xm_iast 9 dX12_line_140 mf_9 hi hin rfl ?_
                        refine x_aload_n dX12_line_141 rfl rfl ?_
                        refine xm_geta dX12_line_142 lf_X12_34 vma_10 ?_
                        refine x_aload_n dX12_line_145 rfl rfl ?_
                        refine xm_geti dX12_line_146 lf_X12_152 vmi_16 ?_
                        refine x_iload_n dX12_line_149 rfl rfl ?_
                        refine xm_iast 10 dX12_line_150 mf_10 hi hin rfl ?_
                        refine x_aload_n dX12_line_151 rfl rfl ?_
                        refine xm_geta dX12_line_152 lf_X12_37 vma_11 ?_
                        refine x_aload_n dX12_line_155 rfl rfl ?_
                        refine xm_geti dX12_line_156 lf_X12_152 vmi_16 ?_
                        refine x_iload dX12_line_159 rfl ?_
                        refine xm_iast 11 dX12_line_161 mf_11 hi hin rfl ?_
                        refine x_aload_n dX12_line_162 rfl rfl ?_
                        refine xm_geta dX12_line_163 lf_X12_40 vma_12 ?_
                        refine x_aload_n dX12_line_166 rfl rfl ?_
                        refine xm_geti dX12_line_167 lf_X12_152 vmi_16 ?_
                        refine x_iload dX12_line_170 rfl ?_
                        refine xm_iast 12 dX12_line_172 mf_12 hi hin rfl ?_
                        refine x_aload_n dX12_line_173 rfl rfl ?_
                        refine xm_geta dX12_line_174 lf_X12_43 vma_13 ?_
                        refine x_aload_n dX12_line_177 rfl rfl ?_
                        refine xm_geti dX12_line_178 lf_X12_152 vmi_16 ?_
                        refine x_iload dX12_line_181 rfl ?_
                        refine xm_iast 13 dX12_line_183 mf_13 hi hin rfl ?_
                        refine x_aload_n dX12_line_184 rfl rfl ?_
                        refine xm_geta dX12_line_185 lf_X12_46 vma_14 ?_
                        refine x_aload_n dX12_line_188 rfl rfl ?_
                        refine xm_geti dX12_line_189 lf_X12_152 vmi_16 ?_
                        refine x_aload_n dX12_line_192 rfl rfl ?_
                        refine xm_geti dX12_line_193 lf_X12_142 vmi_1 ?_
                        refine xm_iast 14 dX12_line_196 mf_14 hi hin rfl ?_
                        refine x_aload_n dX12_line_197 rfl rfl ?_
                        refine x_dup dX12_line_198 rfl ?_
                        refine xm_geti dX12_line_199 lf_X12_152 vmi_16 ?_
                        refine x_iconst (v := 1) dX12_line_202 (by decide) ?_
                        refine x_iadd dX12_line_203 ?_
                        refine xm_puti dX12_line_204 lp_X12_152 vmq_16 vmn_16 vmf_16 ?_
                        refine x_aload_n dX12_line_207 rfl rfl ?_
                        refine xm_geti dX12_line_208 lf_X12_152 vmi_16 ?_
                        refine x_iconst (v := 1) dX12_line_211 (by decide) ?_
                        refine x_isub dX12_line_212 ?_
                        exact x_ireturn dX12_line_213 rfl rfl (fin_t (m := mm ad) hq ⟨h12, h20, h32, h39, h51, h62, by first | exact Or.inl h70 | exact Or.inr ⟨h79, h85, h91⟩, fun z => by first | exact z.1 h110 | exact absurd h116 (Int32.not_lt.mpr z.2)⟩ (add_sub1 _).symm)
                      · refine x_iload dX12_line_113 rfl ?_
                        refine x_iload_n dX12_line_115 rfl rfl ?_
                        refine x_icmp_gt (tgt := 121) dX12_line_116 (by decide) (fun h116 => ?_) (fun h116 => ?_)
                        · refine x_aload_n dX12_line_121 rfl rfl ?_
                          refine xm_geta dX12_line_122 lf_X12_28 vma_8 ?_
                          refine x_aload_n dX12_line_125 rfl rfl ?_
                          refine xm_geti dX12_line_126 lf_X12_152 vmi_16 ?_
                          refine x_iload_n dX12_line_129 rfl rfl ?_
                          refine xm_iast 8 dX12_line_130 mf_8 hi hin rfl ?_
                          refine x_aload_n dX12_line_131 rfl rfl ?_
                          refine xm_geta dX12_line_132 lf_X12_31 vma_9 ?_
                          refine x_aload_n dX12_line_135 rfl rfl ?_
                          refine xm_geti dX12_line_136 lf_X12_152 vmi_16 ?_
                          refine x_iload_n dX12_line_139 rfl rfl ?_
                          refine xm_iast 9 dX12_line_140 mf_9 hi hin rfl ?_
                          refine x_aload_n dX12_line_141 rfl rfl ?_
                          refine xm_geta dX12_line_142 lf_X12_34 vma_10 ?_
                          refine x_aload_n dX12_line_145 rfl rfl ?_
                          refine xm_geti dX12_line_146 lf_X12_152 vmi_16 ?_
                          refine x_iload_n dX12_line_149 rfl rfl ?_
                          refine xm_iast 10 dX12_line_150 mf_10 hi hin rfl ?_
                          refine x_aload_n dX12_line_151 rfl rfl ?_
                          refine xm_geta dX12_line_152 lf_X12_37 vma_11 ?_
                          refine x_aload_n dX12_line_155 rfl rfl ?_
                          refine xm_geti dX12_line_156 lf_X12_152 vmi_16 ?_
                          refine x_iload dX12_line_159 rfl ?_
                          refine xm_iast 11 dX12_line_161 mf_11 hi hin rfl ?_
                          refine x_aload_n dX12_line_162 rfl rfl ?_
                          refine xm_geta dX12_line_163 lf_X12_40 vma_12 ?_
                          refine x_aload_n dX12_line_166 rfl rfl ?_
                          refine xm_geti dX12_line_167 lf_X12_152 vmi_16 ?_
                          refine x_iload dX12_line_170 rfl ?_
                          refine xm_iast 12 dX12_line_172 mf_12 hi hin rfl ?_
                          refine x_aload_n dX12_line_173 rfl rfl ?_
                          refine xm_geta dX12_line_174 lf_X12_43 vma_13 ?_
                          refine x_aload_n dX12_line_177 rfl rfl ?_
                          refine xm_geti dX12_line_178 lf_X12_152 vmi_16 ?_
                          refine x_iload dX12_line_181 rfl ?_
                          refine xm_iast 13 dX12_line_183 mf_13 hi hin rfl ?_
                          refine x_aload_n dX12_line_184 rfl rfl ?_
                          refine xm_geta dX12_line_185 lf_X12_46 vma_14 ?_
                          refine x_aload_n dX12_line_188 rfl rfl ?_
                          refine xm_geti dX12_line_189 lf_X12_152 vmi_16 ?_
                          refine x_aload_n dX12_line_192 rfl rfl ?_
                          refine xm_geti dX12_line_193 lf_X12_142 vmi_1 ?_
                          refine xm_iast 14 dX12_line_196 mf_14 hi hin rfl ?_
                          refine x_aload_n dX12_line_197 rfl rfl ?_
                          refine x_dup dX12_line_198 rfl ?_
                          refine xm_geti dX12_line_199 lf_X12_152 vmi_16 ?_
                          refine x_iconst (v := 1) dX12_line_202 (by decide) ?_
                          refine x_iadd dX12_line_203 ?_
                          refine xm_puti dX12_line_204 lp_X12_152 vmq_16 vmn_16 vmf_16 ?_
                          refine x_aload_n dX12_line_207 rfl rfl ?_
                          refine xm_geti dX12_line_208 lf_X12_152 vmi_16 ?_
                          refine x_iconst (v := 1) dX12_line_211 (by decide) ?_
                          refine x_isub dX12_line_212 ?_
                          exact x_ireturn dX12_line_213 rfl rfl (fin_t (m := mm ad) hq ⟨h12, h20, h32, h39, h51, h62, by first | exact Or.inl h70 | exact Or.inr ⟨h79, h85, h91⟩, fun z => by first | exact z.1 h110 | exact absurd h116 (Int32.not_lt.mpr z.2)⟩ (add_sub1 _).symm)
                        · refine x_iconst (v := -1) dX12_line_119 (by decide) ?_
                          exact x_ireturn dX12_line_120 rfl rfl (fin_f (m := mm ad) hq (fun z => z.2.2.2.2.2.2.2 ⟨h110, Int32.not_lt.mp h116⟩))
                    · refine x_iconst (v := -1) dX12_line_94 (by decide) ?_
                      exact x_ireturn dX12_line_95 rfl rfl (fin_f (m := mm ad) hq (fun z => by
rcases z.2.2.2.2.2.2.1 with y | y
· exact h70 y
· first | exact h79 y.1 | exact y.2.1 h85 | exact y.2.2 h91))
            · refine x_iconst (v := -1) dX12_line_65 (by decide) ?_
              exact x_ireturn dX12_line_66 rfl rfl (fin_f (m := mm ad) hq (fun z => by first | exact z.1 h12 | exact h20 z.2.1 | exact h32 z.2.2.1 | exact h39 z.2.2.2.1 | exact h51 z.2.2.2.2.1 | exact h62 z.2.2.2.2.2.1))
end MDA
end
section
/-! the model's methods, 2: happenings, words, marks, land, moods, last lines, tables, questions -/
section MDB2
variable {G : Gam} {d : Nat} {k : Nat × Nat} {ad : Nat → Nat} {σ σ0 : MS} {M : Mem} {Q : Option Value → Mem → Prop}
theorem c_X12_ruleOn {day q : Int32} (hi : adOK ad) (hc : Cnt σ) (hq : Q (some (.int (spRule σ day q (cn σ 25)))) (mm ad σ)) : CT G d (0, 0) MX12_ruleOn [.ref (ad 99), .int day, .int q] (mm ad σ) Q := by
  obtain ⟨hl1, hl2⟩ := hc.b 25 (b := 20) (by decide)
  have hbest : ∀ n, n ≤ 20 → spRule σ day q n = -1 ∨ ∃ j, j < n ∧ spRule σ day q n = nI j := by
    intro n
    induction n with
    | zero => intro _; exact Or.inl rfl
    | succ n ih =>
      intro hn
      have e : spRule σ day q (n + 1) = if σ.2 22 n ≤ q ∧ σ.2 21 n ≤ day ∧ (spRule σ day q n = -1 ∨ σ.2 21 (spRule σ day q n).toNatClampNeg ≤ σ.2 21 n) then nI n else spRule σ day q n := rfl
      rw [e]
      split
      · exact Or.inr ⟨n, by omega, rfl⟩
      · rcases ih (by omega) with h | ⟨j, h1, h2⟩
        · exact Or.inl h
        · exact Or.inr ⟨j, by omega, h2⟩
  refine CT.of rfl (Nat.le_of_ble_eq_true rfl) ?_
  refine x_iconst (v := -1) dX12_ruleOn_0 (by decide) ?_
  refine x_istore_n dX12_ruleOn_1 rfl (by decide) ?_
  refine x_iconst (v := 0) dX12_ruleOn_2 (by decide) ?_
  refine x_istore dX12_ruleOn_3 (by decide) ?_
  refine x_loc [(0, .ref (ad 99)), (1, .int day), (2, .int q), (3, .int (spRule σ day q 0)), (4, .int (nI 0))] ⟨rfl, rfl, rfl, rfl, rfl, trivial⟩ ?_
  refine loop_up (P := fun i => XJ G d (0, 0) MX12_ruleOn (mm ad σ) [(0, .ref (ad 99)), (1, .int day), (2, .int q), (3, .int (spRule σ day q i)), (4, .int (nI i))] [] 5 Q) (n := cn σ 25) ?_ ?_ 0 (Nat.zero_le _)
  · refine x_iload dX12_ruleOn_5 rfl ?_
    refine x_aload_n dX12_ruleOn_7 rfl rfl ?_
    refine xm_geti dX12_ruleOn_8 lf_X12_289 vmi_25 ?_
    refine x_icmp_ge (tgt := 66) dX12_ruleOn_11 (by decide) (fun _ => ?_) (fun z => absurd (loopT hl1) z)
    refine x_iload_n dX12_ruleOn_66 rfl rfl ?_
    exact x_ireturn dX12_ruleOn_67 rfl rfl (hq)
  · intro i hlt ih
    have hin : vp_in (nI i) 20 := vp_in_nI (by omega) (by decide)
    have hcl : (nI i).toNatClampNeg = i := nI_clamp (by omega)
    refine x_iload dX12_ruleOn_5 rfl ?_
    refine x_aload_n dX12_ruleOn_7 rfl rfl ?_
    refine xm_geti dX12_ruleOn_8 lf_X12_289 vmi_25 ?_
    refine x_icmp_ge (tgt := 66) dX12_ruleOn_11 (by decide) (fun z => absurd z (loopF hl1 hlt (by omega))) (fun _ => ?_)
    refine x_aload_n dX12_ruleOn_14 rfl rfl ?_
    refine xm_geta dX12_ruleOn_15 lf_X12_62 vma_22 ?_
    refine x_iload dX12_ruleOn_18 rfl ?_
    refine xm_iald 22 dX12_ruleOn_20 mf_22 hi hin hcl ?_
    refine x_iload_n dX12_ruleOn_21 rfl rfl ?_
    refine x_icmp_gt (tgt := 60) dX12_ruleOn_22 (by decide) (fun h22 => ?_) (fun h22 => ?_)
    · refine x_iinc (c := 1) dX12_ruleOn_60 rfl (by decide) ?_
      refine x_goto (tgt := 5) dX12_ruleOn_63 (by decide) ?_
      refine x_loc _ (?_ : lle _ _) ih
      refine ⟨rfl, rfl, rfl, ?_, ?_, trivial⟩
      · show some (Value.int _) = some (Value.int (if σ.2 22 i ≤ q ∧ σ.2 21 i ≤ day ∧ (spRule σ day q i = -1 ∨ σ.2 21 (spRule σ day q i).toNatClampNeg ≤ σ.2 21 i) then nI i else spRule σ day q i))
        clear ih hq hbest; grind
      · show some (Value.int _) = some (Value.int (nI (i + 1)))
        rw [← nI_1]
    · refine x_aload_n dX12_ruleOn_25 rfl rfl ?_
      refine xm_geta dX12_ruleOn_26 lf_X12_59 vma_21 ?_
      refine x_iload dX12_ruleOn_29 rfl ?_
      refine xm_iald 21 dX12_ruleOn_31 mf_21 hi hin hcl ?_
      refine x_iload_n dX12_ruleOn_32 rfl rfl ?_
      refine x_icmp_gt (tgt := 60) dX12_ruleOn_33 (by decide) (fun h33 => ?_) (fun h33 => ?_)
      · refine x_iinc (c := 1) dX12_ruleOn_60 rfl (by decide) ?_
        refine x_goto (tgt := 5) dX12_ruleOn_63 (by decide) ?_
        refine x_loc _ (?_ : lle _ _) ih
        refine ⟨rfl, rfl, rfl, ?_, ?_, trivial⟩
        · show some (Value.int _) = some (Value.int (if σ.2 22 i ≤ q ∧ σ.2 21 i ≤ day ∧ (spRule σ day q i = -1 ∨ σ.2 21 (spRule σ day q i).toNatClampNeg ≤ σ.2 21 i) then nI i else spRule σ day q i))
          clear ih hq hbest; grind
        · show some (Value.int _) = some (Value.int (nI (i + 1)))
          rw [← nI_1]
      · refine x_iload_n dX12_ruleOn_36 rfl rfl ?_
        refine x_iconst (v := -1) dX12_ruleOn_37 (by decide) ?_
        refine x_icmp_eq (tgt := 57) dX12_ruleOn_38 (by decide) (fun h38 => ?_) (fun h38 => ?_)
        · refine x_iload dX12_ruleOn_57 rfl ?_
          refine x_istore_n dX12_ruleOn_59 rfl (by decide) ?_
          refine x_iinc (c := 1) dX12_ruleOn_60 rfl (by decide) ?_
          refine x_goto (tgt := 5) dX12_ruleOn_63 (by decide) ?_
          refine x_loc _ (?_ : lle _ _) ih
          refine ⟨rfl, rfl, rfl, ?_, ?_, trivial⟩
          · show some (Value.int _) = some (Value.int (if σ.2 22 i ≤ q ∧ σ.2 21 i ≤ day ∧ (spRule σ day q i = -1 ∨ σ.2 21 (spRule σ day q i).toNatClampNeg ≤ σ.2 21 i) then nI i else spRule σ day q i))
            clear ih hq hbest; grind
          · show some (Value.int _) = some (Value.int (nI (i + 1)))
            rw [← nI_1]
        · have hin2 : vp_in (spRule σ day q i) 20 := by
            rcases hbest i (by omega) with h | ⟨j, h1, h2⟩
            · exact absurd h h38
            · rw [h2]; exact vp_in_nI (by omega) (by decide)
          refine x_aload_n dX12_ruleOn_41 rfl rfl ?_
          refine xm_geta dX12_ruleOn_42 lf_X12_59 vma_21 ?_
          refine x_iload dX12_ruleOn_45 rfl ?_
          refine xm_iald 21 dX12_ruleOn_47 mf_21 hi hin hcl ?_
          refine x_aload_n dX12_ruleOn_48 rfl rfl ?_
          refine xm_geta dX12_ruleOn_49 lf_X12_59 vma_21 ?_
          refine x_iload_n dX12_ruleOn_52 rfl rfl ?_
          refine xm_iald 21 dX12_ruleOn_53 mf_21 hi hin2 rfl ?_
          refine x_icmp_lt (tgt := 60) dX12_ruleOn_54 (by decide) (fun h54 => ?_) (fun h54 => ?_)
          · refine x_iinc (c := 1) dX12_ruleOn_60 rfl (by decide) ?_
            refine x_goto (tgt := 5) dX12_ruleOn_63 (by decide) ?_
            refine x_loc _ (?_ : lle _ _) ih
            refine ⟨rfl, rfl, rfl, ?_, ?_, trivial⟩
            · show some (Value.int _) = some (Value.int (if σ.2 22 i ≤ q ∧ σ.2 21 i ≤ day ∧ (spRule σ day q i = -1 ∨ σ.2 21 (spRule σ day q i).toNatClampNeg ≤ σ.2 21 i) then nI i else spRule σ day q i))
              clear ih hq hbest; grind
            · show some (Value.int _) = some (Value.int (nI (i + 1)))
              rw [← nI_1]
          · refine x_iload dX12_ruleOn_57 rfl ?_
            refine x_istore_n dX12_ruleOn_59 rfl (by decide) ?_
            refine x_iinc (c := 1) dX12_ruleOn_60 rfl (by decide) ?_
            refine x_goto (tgt := 5) dX12_ruleOn_63 (by decide) ?_
            refine x_loc _ (?_ : lle _ _) ih
            refine ⟨rfl, rfl, rfl, ?_, ?_, trivial⟩
            · show some (Value.int _) = some (Value.int (if σ.2 22 i ≤ q ∧ σ.2 21 i ≤ day ∧ (spRule σ day q i = -1 ∨ σ.2 21 (spRule σ day q i).toNatClampNeg ≤ σ.2 21 i) then nI i else spRule σ day q i))
              clear ih hq hbest; grind
            · show some (Value.int _) = some (Value.int (nI (i + 1)))
              rw [← nI_1]
theorem c_X12_force {day q : Int32} (hi : adOK ad) (h0 : seti σ 0 0 = σ0) (hc : Cnt σ0) (hq : Q (some (.int (aForce σ0 day q))) (mm ad σ0)) : CT G (d + 2) (0, 0) MX12_force [.ref (ad 99), .int day, .int q] (mm ad σ) Q := by
  refine CT.of rfl (Nat.le_of_ble_eq_true rfl) ?_
  refine x_aload_n dX12_force_0 rfl rfl ?_
  refine x_iconst (v := 0) dX12_force_1 (by decide) ?_
  refine xm_puti dX12_force_2 lp_X12_138 vmq_0 vmn_0 vmf_0 ?_
  rw [h0]
  refine x_iload_n dX12_force_5 rfl rfl ?_
  refine x_cS1 dX12_force_6 ls_X12_175 rfl  (c_X12_isDay ?_)
  refine x_if_eq_b (tgt := 29) dX12_force_9 (by decide) (fun h9 => ?_) (fun h9 => ?_)
  · refine x_iconst (v := -1) dX12_force_29 (by decide) ?_
    exact x_ireturn dX12_force_30 rfl rfl (by first | exact fan_t hq ⟨h9, h17⟩ | exact fan_f hq (fun z => h9 z.1) | exact fan_f hq (fun z => h17 z.2))
  · refine x_aload_n dX12_force_12 rfl rfl ?_
    refine x_iload_n dX12_force_13 rfl rfl ?_
    refine x_cV1 dX12_force_14 lv_X12_159 mm_obj rfl rfl rfl  (c_X12_isKnown ?_)
    refine x_if_eq_b (tgt := 29) dX12_force_17 (by decide) (fun h17 => ?_) (fun h17 => ?_)
    · refine x_iconst (v := -1) dX12_force_29 (by decide) ?_
      exact x_ireturn dX12_force_30 rfl rfl (by first | exact fan_t hq ⟨h9, h17⟩ | exact fan_f hq (fun z => h9 z.1) | exact fan_f hq (fun z => h17 z.2))
    · refine x_aload_n dX12_force_20 rfl rfl ?_
      refine x_iload_n dX12_force_21 rfl rfl ?_
      refine x_iload_n dX12_force_22 rfl rfl ?_
      refine x_cV2 dX12_force_23 lv_X12_292 mm_obj rfl rfl rfl  (c_X12_ruleOn hi hc ?_)
      refine x_goto (tgt := 30) dX12_force_26 (by decide) ?_
      exact x_ireturn dX12_force_30 rfl rfl (by first | exact fan_t hq ⟨h9, h17⟩ | exact fan_f hq (fun z => h9 z.1) | exact fan_f hq (fun z => h17 z.2))
theorem c_X12_happen {a b c z : Int32} (hi : adOK ad) (h0 : seti σ 0 0 = σ0) (hc : Cnt σ0) (hq : Q (some (.int (aHappen σ0 a b c))) (mm ad (nHappen σ0 a b c z))) : CT G (d + 2) (0, 0) MX12_happen [.ref (ad 99), .int a, .int b, .int c, .int z] (mm ad σ) Q := by
  obtain ⟨hl1, hl2⟩ := hc.b 44 (b := 100) (by decide)
  refine CT.of rfl (Nat.le_of_ble_eq_true rfl) ?_
  refine x_aload_n dX12_happen_0 rfl rfl ?_
  refine x_iconst (v := 0) dX12_happen_1 (by decide) ?_
  refine xm_puti dX12_happen_2 lp_X12_138 vmq_0 vmn_0 vmf_0 ?_
  rw [h0]
  refine x_aload_n dX12_happen_5 rfl rfl ?_
  refine xm_geti dX12_happen_6 lf_X12_329 vmi_44 ?_
  refine x_bipush (v := 100) dX12_happen_9 (by decide) ?_
  refine x_icmp_eq (tgt := 38) dX12_happen_11 (by decide) (fun h11 => ?_) (fun h11 => ?_)
  · refine x_iconst (v := 0) dX12_happen_38 (by decide) ?_
    exact x_ireturn dX12_happen_39 rfl rfl (fbn_f (m := mm ad) hq (fun z => by first | exact z.1 h11 | exact h21 z.2.1 | exact h28 z.2.2.1 | exact h35 z.2.2.2))
  · refine x_iload_n dX12_happen_14 rfl rfl ?_
    refine x_iconst (v := 0) dX12_happen_15 (by decide) ?_
    refine x_bipush (v := 7) dX12_happen_16 (by decide) ?_
    refine x_cS3 dX12_happen_18 ls_X12_145 rfl  (c_X12_isIn ?_)
    refine x_if_eq_b (tgt := 38) dX12_happen_21 (by decide) (fun h21 => ?_) (fun h21 => ?_)
    · refine x_iconst (v := 0) dX12_happen_38 (by decide) ?_
      exact x_ireturn dX12_happen_39 rfl rfl (fbn_f (m := mm ad) hq (fun z => by first | exact z.1 h11 | exact h21 z.2.1 | exact h28 z.2.2.1 | exact h35 z.2.2.2))
    · refine x_iload_n dX12_happen_24 rfl rfl ?_
      refine x_cS1 dX12_happen_25 ls_X12_175 rfl  (c_X12_isDay ?_)
      refine x_if_eq_b (tgt := 38) dX12_happen_28 (by decide) (fun h28 => ?_) (fun h28 => ?_)
      · refine x_iconst (v := 0) dX12_happen_38 (by decide) ?_
        exact x_ireturn dX12_happen_39 rfl rfl (fbn_f (m := mm ad) hq (fun z => by first | exact z.1 h11 | exact h21 z.2.1 | exact h28 z.2.2.1 | exact h35 z.2.2.2))
      · refine x_iload_n dX12_happen_31 rfl rfl ?_
        refine x_cS1 dX12_happen_32 ls_X12_168 rfl  (c_X12_isSort ?_)
        refine x_if_ne_b (tgt := 40) dX12_happen_35 (by decide) (fun h35 => ?_) (fun h35 => ?_)
        · have hin := in_cnt hl1 hl2 (v := 100) rfl h11 (by decide)
          refine x_aload_n dX12_happen_40 rfl rfl ?_
          refine xm_geta dX12_happen_41 lf_X12_74 vma_38 ?_
          refine x_aload_n dX12_happen_44 rfl rfl ?_
          refine xm_geti dX12_happen_45 lf_X12_329 vmi_44 ?_
          refine x_iload_n dX12_happen_48 rfl rfl ?_
          refine xm_iast 38 dX12_happen_49 mf_38 hi hin rfl ?_
          refine x_aload_n dX12_happen_50 rfl rfl ?_
          refine xm_geta dX12_happen_51 lf_X12_77 vma_39 ?_
          refine x_aload_n dX12_happen_54 rfl rfl ?_
          refine xm_geti dX12_happen_55 lf_X12_329 vmi_44 ?_
          refine x_iload_n dX12_happen_58 rfl rfl ?_
          refine xm_iast 39 dX12_happen_59 mf_39 hi hin rfl ?_
          refine x_aload_n dX12_happen_60 rfl rfl ?_
          refine xm_geta dX12_happen_61 lf_X12_80 vma_40 ?_
          refine x_aload_n dX12_happen_64 rfl rfl ?_
          refine xm_geti dX12_happen_65 lf_X12_329 vmi_44 ?_
          refine x_iload_n dX12_happen_68 rfl rfl ?_
          refine xm_iast 40 dX12_happen_69 mf_40 hi hin rfl ?_
          refine x_aload_n dX12_happen_70 rfl rfl ?_
          refine xm_geta dX12_happen_71 lf_X12_86 vma_42 ?_
          refine x_aload_n dX12_happen_74 rfl rfl ?_
          refine xm_geti dX12_happen_75 lf_X12_329 vmi_44 ?_
          refine x_iload dX12_happen_78 rfl ?_
          refine xm_zast 42 dX12_happen_80 mf_42 hi hin rfl ?_
          refine x_aload_n dX12_happen_81 rfl rfl ?_
          refine xm_geta dX12_happen_82 lf_X12_83 vma_41 ?_
          refine x_aload_n dX12_happen_85 rfl rfl ?_
          refine xm_geti dX12_happen_86 lf_X12_329 vmi_44 ?_
          refine x_aload_n dX12_happen_89 rfl rfl ?_
          refine xm_geti dX12_happen_90 lf_X12_142 vmi_1 ?_
          refine xm_iast 41 dX12_happen_93 mf_41 hi hin rfl ?_
          refine x_aload_n dX12_happen_94 rfl rfl ?_
          refine x_dup dX12_happen_95 rfl ?_
          refine xm_geti dX12_happen_96 lf_X12_329 vmi_44 ?_
          refine x_iconst (v := 1) dX12_happen_99 (by decide) ?_
          refine x_iadd dX12_happen_100 ?_
          refine xm_puti dX12_happen_101 lp_X12_329 vmq_44 vmn_44 vmf_44 ?_
          refine x_iconst (v := 1) dX12_happen_104 (by decide) ?_
          exact x_ireturn dX12_happen_105 rfl rfl (fbn_t (m := mm ad) hq ⟨h11, h21, h28, h35⟩)
        · refine x_iconst (v := 0) dX12_happen_38 (by decide) ?_
          exact x_ireturn dX12_happen_39 rfl rfl (fbn_f (m := mm ad) hq (fun z => by first | exact z.1 h11 | exact h21 z.2.1 | exact h28 z.2.2.1 | exact h35 z.2.2.2))
/-- what a line's person is -/
def LinP (σ : MS) : Prop := ∀ l, l < cn σ 16 → 0 ≤ σ.2 8 l ∧ σ.2 8 l < σ.1 15
theorem c_X12_truth {l q : Int32} (hi : adOK ad) (h0 : seti σ 0 0 = σ0) (hc : Cnt σ0) (hp : LinP σ0) (hq : Q (some (.int (aTruth σ0 l q))) (mm ad σ0)) : CT G (d + 3) (0, 0) MX12_truth [.ref (ad 99), .int l, .int q] (mm ad σ) Q := by
  obtain ⟨hl1, hl2⟩ := hc.b 16 (b := 200) (by decide)
  obtain ⟨hp1, hp2⟩ := hc.b 15 (b := 24) (by decide)
  obtain ⟨hh1, hh2⟩ := hc.b 44 (b := 100) (by decide)
  refine CT.of rfl (Nat.le_of_ble_eq_true rfl) ?_
  refine x_aload_n dX12_truth_0 rfl rfl ?_
  refine x_iconst (v := 0) dX12_truth_1 (by decide) ?_
  refine xm_puti dX12_truth_2 lp_X12_138 vmq_0 vmn_0 vmf_0 ?_
  rw [h0]
  refine x_aload_n dX12_truth_5 rfl rfl ?_
  refine x_iload_n dX12_truth_6 rfl rfl ?_
  refine x_iload_n dX12_truth_7 rfl rfl ?_
  refine x_cV2 dX12_truth_8 lv_X12_305 mm_obj rfl rfl rfl  (c_X12_isLineBy hi hc ?_)
  refine x_if_ne_b (tgt := 16) dX12_truth_11 (by decide) (fun h11 => ?_) (fun h11 => ?_)
  · obtain ⟨j, hj, rfl⟩ := of_lt h11.1.1 h11.1.2 hl1 (by omega)
    have hjc : (nI j).toNatClampNeg = j := nI_clamp (by omega)
    have hq := fan_t hq h11
    rw [hjc] at hq
    have hinj : vp_in (nI j) 200 := vp_in_nI (by omega) (by decide)
    have hinp : vp_in (σ0.2 8 j) 24 := in_lt (hp j hj).1 (hp j hj).2 hp1 hp2 (by decide)
    refine x_iconst (v := 2) dX12_truth_16 (by decide) ?_
    refine x_istore_n dX12_truth_17 rfl (by decide) ?_
    refine x_iconst (v := 0) dX12_truth_18 (by decide) ?_
    refine x_istore dX12_truth_19 (by decide) ?_
    refine x_loc [(0, .ref (ad 99)), (1, .int (nI j)), (2, .int q), (3, .int (spTruth σ0 j q 0)), (4, .int (nI 0))] ⟨rfl, rfl, rfl, rfl, rfl, trivial⟩ ?_
    refine loop_up (P := fun i => XJ G (d + 3) (0, 0) MX12_truth (mm ad σ0) [(0, .ref (ad 99)), (1, .int (nI j)), (2, .int q), (3, .int (spTruth σ0 j q i)), (4, .int (nI i))] [] 21 Q) (n := cn σ0 44) ?_ ?_ 0 (Nat.zero_le _)
    · refine x_iload dX12_truth_21 rfl ?_
      refine x_aload_n dX12_truth_23 rfl rfl ?_
      refine xm_geti dX12_truth_24 lf_X12_329 vmi_44 ?_
      refine x_icmp_ge (tgt := 116) dX12_truth_27 (by decide) (fun _ => ?_) (fun z => absurd (loopT hh1) z)
      refine x_iload_n dX12_truth_116 rfl rfl ?_
      exact x_ireturn dX12_truth_117 rfl rfl (hq)
    · intro i hlt ih
      have hin : vp_in (nI i) 100 := vp_in_nI (by omega) (by decide)
      have hcl : (nI i).toNatClampNeg = i := nI_clamp (by omega)
      refine x_iload dX12_truth_21 rfl ?_
      refine x_aload_n dX12_truth_23 rfl rfl ?_
      refine xm_geti dX12_truth_24 lf_X12_329 vmi_44 ?_
      refine x_icmp_ge (tgt := 116) dX12_truth_27 (by decide) (fun z => absurd z (loopF hh1 hlt (by omega))) (fun _ => ?_)
      refine x_aload_n dX12_truth_30 rfl rfl ?_
      refine xm_geta dX12_truth_31 lf_X12_83 vma_41 ?_
      refine x_iload dX12_truth_34 rfl ?_
      refine xm_iald 41 dX12_truth_36 mf_41 hi hin hcl ?_
      refine x_iload_n dX12_truth_37 rfl rfl ?_
      refine x_icmp_gt (tgt := 110) dX12_truth_38 (by decide) (fun h38 => ?_) (fun h38 => ?_)
      · refine x_iinc (c := 1) dX12_truth_110 rfl (by decide) ?_
        refine x_goto (tgt := 21) dX12_truth_113 (by decide) ?_
        refine x_loc _ (?_ : lle _ _) ih
        refine ⟨rfl, rfl, rfl, ?_, ?_, trivial⟩
        · show some (Value.int _) = some (Value.int (if σ0.2 41 i ≤ q ∧ σ0.2 38 i = σ0.2 2 (σ0.2 8 j).toNatClampNeg ∧ σ0.2 39 i = σ0.2 9 j ∧ σ0.2 40 i = σ0.2 10 j then (if σ0.2 42 i = 0 then 0 else 1) else spTruth σ0 j q i))
          clear ih hq; grind
        · show some (Value.int _) = some (Value.int (nI (i + 1)))
          rw [← nI_1]
      · refine x_aload_n dX12_truth_41 rfl rfl ?_
        refine xm_geta dX12_truth_42 lf_X12_74 vma_38 ?_
        refine x_iload dX12_truth_45 rfl ?_
        refine xm_iald 38 dX12_truth_47 mf_38 hi hin hcl ?_
        refine x_aload_n dX12_truth_48 rfl rfl ?_
        refine xm_geta dX12_truth_49 lf_X12_9 vma_2 ?_
        refine x_aload_n dX12_truth_52 rfl rfl ?_
        refine xm_geta dX12_truth_53 lf_X12_28 vma_8 ?_
        refine x_iload_n dX12_truth_56 rfl rfl ?_
        refine xm_iald 8 dX12_truth_57 mf_8 hi hinj hjc ?_
        refine xm_iald 2 dX12_truth_58 mf_2 hi hinp rfl ?_
        refine x_icmp_ne (tgt := 110) dX12_truth_59 (by decide) (fun h59 => ?_) (fun h59 => ?_)
        · refine x_iinc (c := 1) dX12_truth_110 rfl (by decide) ?_
          refine x_goto (tgt := 21) dX12_truth_113 (by decide) ?_
          refine x_loc _ (?_ : lle _ _) ih
          refine ⟨rfl, rfl, rfl, ?_, ?_, trivial⟩
          · show some (Value.int _) = some (Value.int (if σ0.2 41 i ≤ q ∧ σ0.2 38 i = σ0.2 2 (σ0.2 8 j).toNatClampNeg ∧ σ0.2 39 i = σ0.2 9 j ∧ σ0.2 40 i = σ0.2 10 j then (if σ0.2 42 i = 0 then 0 else 1) else spTruth σ0 j q i))
            clear ih hq; grind
          · show some (Value.int _) = some (Value.int (nI (i + 1)))
            rw [← nI_1]
        · refine x_aload_n dX12_truth_62 rfl rfl ?_
          refine xm_geta dX12_truth_63 lf_X12_77 vma_39 ?_
          refine x_iload dX12_truth_66 rfl ?_
          refine xm_iald 39 dX12_truth_68 mf_39 hi hin hcl ?_
          refine x_aload_n dX12_truth_69 rfl rfl ?_
          refine xm_geta dX12_truth_70 lf_X12_31 vma_9 ?_
          refine x_iload_n dX12_truth_73 rfl rfl ?_
          refine xm_iald 9 dX12_truth_74 mf_9 hi hinj hjc ?_
          refine x_icmp_ne (tgt := 110) dX12_truth_75 (by decide) (fun h75 => ?_) (fun h75 => ?_)
          · refine x_iinc (c := 1) dX12_truth_110 rfl (by decide) ?_
            refine x_goto (tgt := 21) dX12_truth_113 (by decide) ?_
            refine x_loc _ (?_ : lle _ _) ih
            refine ⟨rfl, rfl, rfl, ?_, ?_, trivial⟩
            · show some (Value.int _) = some (Value.int (if σ0.2 41 i ≤ q ∧ σ0.2 38 i = σ0.2 2 (σ0.2 8 j).toNatClampNeg ∧ σ0.2 39 i = σ0.2 9 j ∧ σ0.2 40 i = σ0.2 10 j then (if σ0.2 42 i = 0 then 0 else 1) else spTruth σ0 j q i))
              clear ih hq; grind
            · show some (Value.int _) = some (Value.int (nI (i + 1)))
              rw [← nI_1]
          · refine x_aload_n dX12_truth_78 rfl rfl ?_
            refine xm_geta dX12_truth_79 lf_X12_80 vma_40 ?_
            refine x_iload dX12_truth_82 rfl ?_
            refine xm_iald 40 dX12_truth_84 mf_40 hi hin hcl ?_
            refine x_aload_n dX12_truth_85 rfl rfl ?_
            refine xm_geta dX12_truth_86 lf_X12_34 vma_10 ?_
            refine x_iload_n dX12_truth_89 rfl rfl ?_
            refine xm_iald 10 dX12_truth_90 mf_10 hi hinj hjc ?_
            refine x_icmp_ne (tgt := 110) dX12_truth_91 (by decide) (fun h91 => ?_) (fun h91 => ?_)
            · refine x_iinc (c := 1) dX12_truth_110 rfl (by decide) ?_
              refine x_goto (tgt := 21) dX12_truth_113 (by decide) ?_
              refine x_loc _ (?_ : lle _ _) ih
              refine ⟨rfl, rfl, rfl, ?_, ?_, trivial⟩
              · show some (Value.int _) = some (Value.int (if σ0.2 41 i ≤ q ∧ σ0.2 38 i = σ0.2 2 (σ0.2 8 j).toNatClampNeg ∧ σ0.2 39 i = σ0.2 9 j ∧ σ0.2 40 i = σ0.2 10 j then (if σ0.2 42 i = 0 then 0 else 1) else spTruth σ0 j q i))
                clear ih hq; grind
              · show some (Value.int _) = some (Value.int (nI (i + 1)))
                rw [← nI_1]
            · refine x_aload_n dX12_truth_94 rfl rfl ?_
              refine xm_geta dX12_truth_95 lf_X12_86 vma_42 ?_
              refine x_iload dX12_truth_98 rfl ?_
              refine xm_zald 42 dX12_truth_100 mf_42 hi hin hcl ?_
              refine x_if_eq (tgt := 108) dX12_truth_101 (by decide) (fun h101 => ?_) (fun h101 => ?_)
              · refine x_iconst (v := 0) dX12_truth_108 (by decide) ?_
                refine x_istore_n dX12_truth_109 rfl (by decide) ?_
                refine x_iinc (c := 1) dX12_truth_110 rfl (by decide) ?_
                refine x_goto (tgt := 21) dX12_truth_113 (by decide) ?_
                refine x_loc _ (?_ : lle _ _) ih
                refine ⟨rfl, rfl, rfl, ?_, ?_, trivial⟩
                · show some (Value.int _) = some (Value.int (if σ0.2 41 i ≤ q ∧ σ0.2 38 i = σ0.2 2 (σ0.2 8 j).toNatClampNeg ∧ σ0.2 39 i = σ0.2 9 j ∧ σ0.2 40 i = σ0.2 10 j then (if σ0.2 42 i = 0 then 0 else 1) else spTruth σ0 j q i))
                  clear ih hq; grind
                · show some (Value.int _) = some (Value.int (nI (i + 1)))
                  rw [← nI_1]
              · refine x_iconst (v := 1) dX12_truth_104 (by decide) ?_
                refine x_goto (tgt := 109) dX12_truth_105 (by decide) ?_
                refine x_istore_n dX12_truth_109 rfl (by decide) ?_
                refine x_iinc (c := 1) dX12_truth_110 rfl (by decide) ?_
                refine x_goto (tgt := 21) dX12_truth_113 (by decide) ?_
                refine x_loc _ (?_ : lle _ _) ih
                refine ⟨rfl, rfl, rfl, ?_, ?_, trivial⟩
                · show some (Value.int _) = some (Value.int (if σ0.2 41 i ≤ q ∧ σ0.2 38 i = σ0.2 2 (σ0.2 8 j).toNatClampNeg ∧ σ0.2 39 i = σ0.2 9 j ∧ σ0.2 40 i = σ0.2 10 j then (if σ0.2 42 i = 0 then 0 else 1) else spTruth σ0 j q i))
                  clear ih hq; grind
                · show some (Value.int _) = some (Value.int (nI (i + 1)))
                  rw [← nI_1]
  · refine x_iconst (v := -1) dX12_truth_14 (by decide) ?_
    exact x_ireturn dX12_truth_15 rfl rfl (fan_f hq h11)
theorem spWord_cases {σ : MS} {p say q : Int32} : ∀ n, spWord σ p say q n = -1 ∨ ∃ j, j < n ∧ spWord σ p say q n = nI j := by
  intro n
  induction n with
  | zero => exact Or.inl rfl
  | succ n ih =>
    have e : spWord σ p say q (n + 1) = if σ.2 8 n = p ∧ σ.2 12 n = say ∧ σ.2 14 n ≤ q ∧ (spWord σ p say q n = -1 ∨ σ.2 9 n < σ.2 9 (spWord σ p say q n).toNatClampNeg) then nI n else spWord σ p say q n := rfl
    rw [e]
    split
    · exact Or.inr ⟨n, by omega, rfl⟩
    · rcases ih with h | ⟨j, h1, h2⟩
      · exact Or.inl h
      · exact Or.inr ⟨j, by omega, h2⟩
theorem c_X12_wordOf {p say q : Int32} (hi : adOK ad) (hc : Cnt σ) (hq : Q (some (.int (spWord σ p say q (cn σ 16)))) (mm ad σ)) : CT G d (0, 0) MX12_wordOf [.ref (ad 99), .int p, .int say, .int q] (mm ad σ) Q := by
  obtain ⟨hl1, hl2⟩ := hc.b 16 (b := 200) (by decide)
  refine CT.of rfl (Nat.le_of_ble_eq_true rfl) ?_
  refine x_iconst (v := -1) dX12_wordOf_0 (by decide) ?_
  refine x_istore dX12_wordOf_1 (by decide) ?_
  refine x_iconst (v := 0) dX12_wordOf_3 (by decide) ?_
  refine x_istore dX12_wordOf_4 (by decide) ?_
  refine x_loc [(0, .ref (ad 99)), (1, .int p), (2, .int say), (3, .int q), (4, .int (spWord σ p say q 0)), (5, .int (nI 0))] ⟨rfl, rfl, rfl, rfl, rfl, rfl, trivial⟩ ?_
  refine loop_up (P := fun i => XJ G d (0, 0) MX12_wordOf (mm ad σ) [(0, .ref (ad 99)), (1, .int p), (2, .int say), (3, .int q), (4, .int (spWord σ p say q i)), (5, .int (nI i))] [] 6 Q) (n := cn σ 16) ?_ ?_ 0 (Nat.zero_le _)
  · refine x_iload dX12_wordOf_6 rfl ?_
    refine x_aload_n dX12_wordOf_8 rfl rfl ?_
    refine xm_geti dX12_wordOf_9 lf_X12_152 vmi_16 ?_
    refine x_icmp_ge (tgt := 81) dX12_wordOf_12 (by decide) (fun _ => ?_) (fun z => absurd (loopT hl1) z)
    refine x_iload dX12_wordOf_81 rfl ?_
    exact x_ireturn dX12_wordOf_83 rfl rfl (hq)
  · intro i hlt ih
    have hin : vp_in (nI i) 200 := vp_in_nI (by omega) (by decide)
    have hcl : (nI i).toNatClampNeg = i := nI_clamp (by omega)
    refine x_iload dX12_wordOf_6 rfl ?_
    refine x_aload_n dX12_wordOf_8 rfl rfl ?_
    refine xm_geti dX12_wordOf_9 lf_X12_152 vmi_16 ?_
    refine x_icmp_ge (tgt := 81) dX12_wordOf_12 (by decide) (fun z => absurd z (loopF hl1 hlt (by omega))) (fun _ => ?_)
    refine x_aload_n dX12_wordOf_15 rfl rfl ?_
    refine xm_geta dX12_wordOf_16 lf_X12_28 vma_8 ?_
    refine x_iload dX12_wordOf_19 rfl ?_
    refine xm_iald 8 dX12_wordOf_21 mf_8 hi hin hcl ?_
    refine x_iload_n dX12_wordOf_22 rfl rfl ?_
    refine x_icmp_ne (tgt := 75) dX12_wordOf_23 (by decide) (fun h23 => ?_) (fun h23 => ?_)
    · refine x_iinc (c := 1) dX12_wordOf_75 rfl (by decide) ?_
      refine x_goto (tgt := 6) dX12_wordOf_78 (by decide) ?_
      refine x_loc _ (?_ : lle _ _) ih
      refine ⟨rfl, rfl, rfl, rfl, ?_, ?_, trivial⟩
      · show some (Value.int _) = some (Value.int (if σ.2 8 i = p ∧ σ.2 12 i = say ∧ σ.2 14 i ≤ q ∧ (spWord σ p say q i = -1 ∨ σ.2 9 i < σ.2 9 (spWord σ p say q i).toNatClampNeg) then nI i else spWord σ p say q i))
        clear ih hq; grind
      · show some (Value.int _) = some (Value.int (nI (i + 1)))
        rw [← nI_1]
    · refine x_aload_n dX12_wordOf_26 rfl rfl ?_
      refine xm_geta dX12_wordOf_27 lf_X12_40 vma_12 ?_
      refine x_iload dX12_wordOf_30 rfl ?_
      refine xm_iald 12 dX12_wordOf_32 mf_12 hi hin hcl ?_
      refine x_iload_n dX12_wordOf_33 rfl rfl ?_
      refine x_icmp_ne (tgt := 75) dX12_wordOf_34 (by decide) (fun h34 => ?_) (fun h34 => ?_)
      · refine x_iinc (c := 1) dX12_wordOf_75 rfl (by decide) ?_
        refine x_goto (tgt := 6) dX12_wordOf_78 (by decide) ?_
        refine x_loc _ (?_ : lle _ _) ih
        refine ⟨rfl, rfl, rfl, rfl, ?_, ?_, trivial⟩
        · show some (Value.int _) = some (Value.int (if σ.2 8 i = p ∧ σ.2 12 i = say ∧ σ.2 14 i ≤ q ∧ (spWord σ p say q i = -1 ∨ σ.2 9 i < σ.2 9 (spWord σ p say q i).toNatClampNeg) then nI i else spWord σ p say q i))
          clear ih hq; grind
        · show some (Value.int _) = some (Value.int (nI (i + 1)))
          rw [← nI_1]
      · refine x_aload_n dX12_wordOf_37 rfl rfl ?_
        refine xm_geta dX12_wordOf_38 lf_X12_46 vma_14 ?_
        refine x_iload dX12_wordOf_41 rfl ?_
        refine xm_iald 14 dX12_wordOf_43 mf_14 hi hin hcl ?_
        refine x_iload_n dX12_wordOf_44 rfl rfl ?_
        refine x_icmp_gt (tgt := 75) dX12_wordOf_45 (by decide) (fun h45 => ?_) (fun h45 => ?_)
        · refine x_iinc (c := 1) dX12_wordOf_75 rfl (by decide) ?_
          refine x_goto (tgt := 6) dX12_wordOf_78 (by decide) ?_
          refine x_loc _ (?_ : lle _ _) ih
          refine ⟨rfl, rfl, rfl, rfl, ?_, ?_, trivial⟩
          · show some (Value.int _) = some (Value.int (if σ.2 8 i = p ∧ σ.2 12 i = say ∧ σ.2 14 i ≤ q ∧ (spWord σ p say q i = -1 ∨ σ.2 9 i < σ.2 9 (spWord σ p say q i).toNatClampNeg) then nI i else spWord σ p say q i))
            clear ih hq; grind
          · show some (Value.int _) = some (Value.int (nI (i + 1)))
            rw [← nI_1]
        · refine x_iload dX12_wordOf_48 rfl ?_
          refine x_iconst (v := -1) dX12_wordOf_50 (by decide) ?_
          refine x_icmp_eq (tgt := 71) dX12_wordOf_51 (by decide) (fun h51 => ?_) (fun h51 => ?_)
          · refine x_iload dX12_wordOf_71 rfl ?_
            refine x_istore dX12_wordOf_73 (by decide) ?_
            refine x_iinc (c := 1) dX12_wordOf_75 rfl (by decide) ?_
            refine x_goto (tgt := 6) dX12_wordOf_78 (by decide) ?_
            refine x_loc _ (?_ : lle _ _) ih
            refine ⟨rfl, rfl, rfl, rfl, ?_, ?_, trivial⟩
            · show some (Value.int _) = some (Value.int (if σ.2 8 i = p ∧ σ.2 12 i = say ∧ σ.2 14 i ≤ q ∧ (spWord σ p say q i = -1 ∨ σ.2 9 i < σ.2 9 (spWord σ p say q i).toNatClampNeg) then nI i else spWord σ p say q i))
              clear ih hq; grind
            · show some (Value.int _) = some (Value.int (nI (i + 1)))
              rw [← nI_1]
          · have hin2 : vp_in (spWord σ p say q i) 200 := by
              rcases spWord_cases (σ := σ) (p := p) (say := say) (q := q) i with h | ⟨j, h1, h2⟩
              · exact absurd h h51
              · rw [h2]; exact vp_in_nI (by omega) (by decide)
            refine x_aload_n dX12_wordOf_54 rfl rfl ?_
            refine xm_geta dX12_wordOf_55 lf_X12_31 vma_9 ?_
            refine x_iload dX12_wordOf_58 rfl ?_
            refine xm_iald 9 dX12_wordOf_60 mf_9 hi hin hcl ?_
            refine x_aload_n dX12_wordOf_61 rfl rfl ?_
            refine xm_geta dX12_wordOf_62 lf_X12_31 vma_9 ?_
            refine x_iload dX12_wordOf_65 rfl ?_
            refine xm_iald 9 dX12_wordOf_67 mf_9 hi hin2 rfl ?_
            refine x_icmp_ge (tgt := 75) dX12_wordOf_68 (by decide) (fun h68 => ?_) (fun h68 => ?_)
            · refine x_iinc (c := 1) dX12_wordOf_75 rfl (by decide) ?_
              refine x_goto (tgt := 6) dX12_wordOf_78 (by decide) ?_
              refine x_loc _ (?_ : lle _ _) ih
              refine ⟨rfl, rfl, rfl, rfl, ?_, ?_, trivial⟩
              · show some (Value.int _) = some (Value.int (if σ.2 8 i = p ∧ σ.2 12 i = say ∧ σ.2 14 i ≤ q ∧ (spWord σ p say q i = -1 ∨ σ.2 9 i < σ.2 9 (spWord σ p say q i).toNatClampNeg) then nI i else spWord σ p say q i))
                clear ih hq; grind
              · show some (Value.int _) = some (Value.int (nI (i + 1)))
                rw [← nI_1]
            · refine x_iload dX12_wordOf_71 rfl ?_
              refine x_istore dX12_wordOf_73 (by decide) ?_
              refine x_iinc (c := 1) dX12_wordOf_75 rfl (by decide) ?_
              refine x_goto (tgt := 6) dX12_wordOf_78 (by decide) ?_
              refine x_loc _ (?_ : lle _ _) ih
              refine ⟨rfl, rfl, rfl, rfl, ?_, ?_, trivial⟩
              · show some (Value.int _) = some (Value.int (if σ.2 8 i = p ∧ σ.2 12 i = say ∧ σ.2 14 i ≤ q ∧ (spWord σ p say q i = -1 ∨ σ.2 9 i < σ.2 9 (spWord σ p say q i).toNatClampNeg) then nI i else spWord σ p say q i))
                clear ih hq; grind
              · show some (Value.int _) = some (Value.int (nI (i + 1)))
                rw [← nI_1]
theorem c_X12_bearers {say q : Int32} (hi : adOK ad) (h0 : seti σ 0 0 = σ0) (hc : Cnt σ0) (hq : Q (some (.int (aBear σ0 say q))) (mm ad σ0)) : CT G (d + 2) (0, 0) MX12_bearers [.ref (ad 99), .int say, .int q] (mm ad σ) Q := by
  obtain ⟨hp1, hp2⟩ := hc.b 15 (b := 24) (by decide)
  refine CT.of rfl (Nat.le_of_ble_eq_true rfl) ?_
  refine x_aload_n dX12_bearers_0 rfl rfl ?_
  refine x_iconst (v := 0) dX12_bearers_1 (by decide) ?_
  refine xm_puti dX12_bearers_2 lp_X12_138 vmq_0 vmn_0 vmf_0 ?_
  rw [h0]
  refine x_iload_n dX12_bearers_5 rfl rfl ?_
  refine x_iconst (v := 0) dX12_bearers_6 (by decide) ?_
  refine x_bipush (v := 29) dX12_bearers_7 (by decide) ?_
  refine x_cS3 dX12_bearers_9 ls_X12_145 rfl  (c_X12_isIn ?_)
  refine x_if_eq_b (tgt := 23) dX12_bearers_12 (by decide) (fun h12 => ?_) (fun h12 => ?_)
  · refine x_iconst (v := -1) dX12_bearers_23 (by decide) ?_
    exact x_ireturn dX12_bearers_24 rfl rfl (fan_f hq (fun z => by first | exact h12 z.1 | exact h20 z.2))
  · refine x_aload_n dX12_bearers_15 rfl rfl ?_
    refine x_iload_n dX12_bearers_16 rfl rfl ?_
    refine x_cV1 dX12_bearers_17 lv_X12_159 mm_obj rfl rfl rfl  (c_X12_isKnown ?_)
    refine x_if_ne_b (tgt := 25) dX12_bearers_20 (by decide) (fun h20 => ?_) (fun h20 => ?_)
    · have hq := fan_t hq ⟨h12, h20⟩
      refine x_iconst (v := 0) dX12_bearers_25 (by decide) ?_
      refine x_istore_n dX12_bearers_26 rfl (by decide) ?_
      refine x_iconst (v := 0) dX12_bearers_27 (by decide) ?_
      refine x_istore dX12_bearers_28 (by decide) ?_
      refine x_loc [(0, .ref (ad 99)), (1, .int say), (2, .int q), (3, .int (spBear σ0 say q 0)), (4, .int (nI 0))] ⟨rfl, rfl, rfl, rfl, rfl, trivial⟩ ?_
      refine loop_up (P := fun i => XJ G (d + 2) (0, 0) MX12_bearers (mm ad σ0) [(0, .ref (ad 99)), (1, .int say), (2, .int q), (3, .int (spBear σ0 say q i)), (4, .int (nI i))] [] 30 Q) (n := cn σ0 15) ?_ ?_ 0 (Nat.zero_le _)
      · refine x_iload dX12_bearers_30 rfl ?_
        refine x_aload_n dX12_bearers_32 rfl rfl ?_
        refine xm_geti dX12_bearers_33 lf_X12_149 vmi_15 ?_
        refine x_icmp_ge (tgt := 65) dX12_bearers_36 (by decide) (fun _ => ?_) (fun z => absurd (loopT hp1) z)
        refine x_iload_n dX12_bearers_65 rfl rfl ?_
        exact x_ireturn dX12_bearers_66 rfl rfl (hq)
      · intro i hlt ih
        refine x_iload dX12_bearers_30 rfl ?_
        refine x_aload_n dX12_bearers_32 rfl rfl ?_
        refine xm_geti dX12_bearers_33 lf_X12_149 vmi_15 ?_
        refine x_icmp_ge (tgt := 65) dX12_bearers_36 (by decide) (fun z => absurd z (loopF hp1 hlt (by omega))) (fun _ => ?_)
        refine x_iload_n dX12_bearers_39 rfl rfl ?_
        refine x_aload_n dX12_bearers_40 rfl rfl ?_
        refine x_iload dX12_bearers_41 rfl ?_
        refine x_iload_n dX12_bearers_43 rfl rfl ?_
        refine x_iload_n dX12_bearers_44 rfl rfl ?_
        refine x_cV3 dX12_bearers_45 lv_X12_332 mm_obj rfl rfl rfl  (c_X12_wordOf hi hc ?_)
        refine x_iconst (v := -1) dX12_bearers_48 (by decide) ?_
        refine x_icmp_eq (tgt := 56) dX12_bearers_49 (by decide) (fun h49 => ?_) (fun h49 => ?_)
        · refine x_iconst (v := 0) dX12_bearers_56 (by decide) ?_
          refine x_iadd dX12_bearers_57 ?_
          refine x_istore_n dX12_bearers_58 rfl (by decide) ?_
          refine x_iinc (c := 1) dX12_bearers_59 rfl (by decide) ?_
          refine x_goto (tgt := 30) dX12_bearers_62 (by decide) ?_
          refine x_loc _ (?_ : lle _ _) ih
          refine ⟨rfl, rfl, rfl, ?_, ?_, trivial⟩
          · show some (Value.int _) = some (Value.int (if spWord σ0 (nI i) say q (cn σ0 16) = -1 then spBear σ0 say q i else spBear σ0 say q i + 1))
            clear ih hq; grind [Int32.add_zero]
          · show some (Value.int _) = some (Value.int (nI (i + 1)))
            rw [← nI_1]
        · refine x_iconst (v := 1) dX12_bearers_52 (by decide) ?_
          refine x_goto (tgt := 57) dX12_bearers_53 (by decide) ?_
          refine x_iadd dX12_bearers_57 ?_
          refine x_istore_n dX12_bearers_58 rfl (by decide) ?_
          refine x_iinc (c := 1) dX12_bearers_59 rfl (by decide) ?_
          refine x_goto (tgt := 30) dX12_bearers_62 (by decide) ?_
          refine x_loc _ (?_ : lle _ _) ih
          refine ⟨rfl, rfl, rfl, ?_, ?_, trivial⟩
          · show some (Value.int _) = some (Value.int (if spWord σ0 (nI i) say q (cn σ0 16) = -1 then spBear σ0 say q i else spBear σ0 say q i + 1))
            clear ih hq; grind [Int32.add_zero]
          · show some (Value.int _) = some (Value.int (nI (i + 1)))
            rw [← nI_1]
    · refine x_iconst (v := -1) dX12_bearers_23 (by decide) ?_
      exact x_ireturn dX12_bearers_24 rfl rfl (fan_f hq (fun z => by first | exact h12 z.1 | exact h20 z.2))
theorem c_X12_mark {r l v : Int32} (hi : adOK ad) (h0 : seti σ 0 0 = σ0) (hc : Cnt σ0) (hq : Q (some (.int (aMark σ0 r l v))) (mm ad (nMark σ0 r l v))) : CT G (d + 2) (0, 0) MX12_mark [.ref (ad 99), .int r, .int l, .int v] (mm ad σ) Q := by
  obtain ⟨hl1, hl2⟩ := hc.b 49 (b := 200) (by decide)
  refine CT.of rfl (Nat.le_of_ble_eq_true rfl) ?_
  refine x_aload_n dX12_mark_0 rfl rfl ?_
  refine x_iconst (v := 0) dX12_mark_1 (by decide) ?_
  refine xm_puti dX12_mark_2 lp_X12_138 vmq_0 vmn_0 vmf_0 ?_
  rw [h0]
  refine x_aload_n dX12_mark_5 rfl rfl ?_
  refine xm_geti dX12_mark_6 lf_X12_335 vmi_49 ?_
  refine x_sipush (v := 200) dX12_mark_9 (by decide) ?_
  refine x_icmp_eq (tgt := 40) dX12_mark_12 (by decide) (fun h12 => ?_) (fun h12 => ?_)
  · refine x_iconst (v := 0) dX12_mark_40 (by decide) ?_
    exact x_ireturn dX12_mark_41 rfl rfl (fbn_f (m := mm ad) hq (fun z => by first | exact z.1 h12 | exact h19 z.2.1 | exact h27 z.2.2.1 | exact h37 z.2.2.2))
  · refine x_iload_n dX12_mark_15 rfl rfl ?_
    refine x_cS1 dX12_mark_16 ls_X12_338 rfl  (c_X12_isReader ?_)
    refine x_if_eq_b (tgt := 40) dX12_mark_19 (by decide) (fun h19 => ?_) (fun h19 => ?_)
    · refine x_iconst (v := 0) dX12_mark_40 (by decide) ?_
      exact x_ireturn dX12_mark_41 rfl rfl (fbn_f (m := mm ad) hq (fun z => by first | exact z.1 h12 | exact h19 z.2.1 | exact h27 z.2.2.1 | exact h37 z.2.2.2))
    · refine x_aload_n dX12_mark_22 rfl rfl ?_
      refine x_iload_n dX12_mark_23 rfl rfl ?_
      refine x_cV1 dX12_mark_24 lv_X12_155 mm_obj rfl rfl rfl  (c_X12_isLine ?_)
      refine x_if_eq_b (tgt := 40) dX12_mark_27 (by decide) (fun h27 => ?_) (fun h27 => ?_)
      · refine x_iconst (v := 0) dX12_mark_40 (by decide) ?_
        exact x_ireturn dX12_mark_41 rfl rfl (fbn_f (m := mm ad) hq (fun z => by first | exact z.1 h12 | exact h19 z.2.1 | exact h27 z.2.2.1 | exact h37 z.2.2.2))
      · refine x_iload_n dX12_mark_30 rfl rfl ?_
        refine x_iconst (v := 0) dX12_mark_31 (by decide) ?_
        refine x_bipush (v := 9) dX12_mark_32 (by decide) ?_
        refine x_cS3 dX12_mark_34 ls_X12_145 rfl  (c_X12_isIn ?_)
        refine x_if_ne_b (tgt := 42) dX12_mark_37 (by decide) (fun h37 => ?_) (fun h37 => ?_)
        · have hin := in_cnt hl1 hl2 (v := 200) rfl h12 (by decide)
          refine x_aload_n dX12_mark_42 rfl rfl ?_
          refine xm_geta dX12_mark_43 lf_X12_93 vma_45 ?_
          refine x_aload_n dX12_mark_46 rfl rfl ?_
          refine xm_geti dX12_mark_47 lf_X12_335 vmi_49 ?_
          refine x_iload_n dX12_mark_50 rfl rfl ?_
          refine xm_iast 45 dX12_mark_51 mf_45 hi hin rfl ?_
          refine x_aload_n dX12_mark_52 rfl rfl ?_
          refine xm_geta dX12_mark_53 lf_X12_96 vma_46 ?_
          refine x_aload_n dX12_mark_56 rfl rfl ?_
          refine xm_geti dX12_mark_57 lf_X12_335 vmi_49 ?_
          refine x_iload_n dX12_mark_60 rfl rfl ?_
          refine xm_iast 46 dX12_mark_61 mf_46 hi hin rfl ?_
          refine x_aload_n dX12_mark_62 rfl rfl ?_
          refine xm_geta dX12_mark_63 lf_X12_99 vma_47 ?_
          refine x_aload_n dX12_mark_66 rfl rfl ?_
          refine xm_geti dX12_mark_67 lf_X12_335 vmi_49 ?_
          refine x_iload_n dX12_mark_70 rfl rfl ?_
          refine xm_iast 47 dX12_mark_71 mf_47 hi hin rfl ?_
          refine x_aload_n dX12_mark_72 rfl rfl ?_
          refine xm_geta dX12_mark_73 lf_X12_102 vma_48 ?_
          refine x_aload_n dX12_mark_76 rfl rfl ?_
          refine xm_geti dX12_mark_77 lf_X12_335 vmi_49 ?_
          refine x_aload_n dX12_mark_80 rfl rfl ?_
          refine xm_geti dX12_mark_81 lf_X12_142 vmi_1 ?_
          refine xm_iast 48 dX12_mark_84 mf_48 hi hin rfl ?_
          refine x_aload_n dX12_mark_85 rfl rfl ?_
          refine x_dup dX12_mark_86 rfl ?_
          refine xm_geti dX12_mark_87 lf_X12_335 vmi_49 ?_
          refine x_iconst (v := 1) dX12_mark_90 (by decide) ?_
          refine x_iadd dX12_mark_91 ?_
          refine xm_puti dX12_mark_92 lp_X12_335 vmq_49 vmn_49 vmf_49 ?_
          refine x_iconst (v := 1) dX12_mark_95 (by decide) ?_
          exact x_ireturn dX12_mark_96 rfl rfl (fbn_t (m := mm ad) hq ⟨h12, h19, h27, h37⟩)
        · refine x_iconst (v := 0) dX12_mark_40 (by decide) ?_
          exact x_ireturn dX12_mark_41 rfl rfl (fbn_f (m := mm ad) hq (fun z => by first | exact z.1 h12 | exact h19 z.2.1 | exact h27 z.2.2.1 | exact h37 z.2.2.2))
theorem c_X12_markOf {r l q : Int32} (hi : adOK ad) (hc : Cnt σ) (hq : Q (some (.int (spMark σ r l q (cn σ 49)))) (mm ad σ)) : CT G d (0, 0) MX12_markOf [.ref (ad 99), .int r, .int l, .int q] (mm ad σ) Q := by
  obtain ⟨hl1, hl2⟩ := hc.b 49 (b := 200) (by decide)
  refine CT.of rfl (Nat.le_of_ble_eq_true rfl) ?_
  refine x_iconst (v := -1) dX12_markOf_0 (by decide) ?_
  refine x_istore dX12_markOf_1 (by decide) ?_
  refine x_iconst (v := 0) dX12_markOf_3 (by decide) ?_
  refine x_istore dX12_markOf_4 (by decide) ?_
  refine x_loc [(0, .ref (ad 99)), (1, .int r), (2, .int l), (3, .int q), (4, .int (spMark σ r l q 0)), (5, .int (nI 0))] ⟨rfl, rfl, rfl, rfl, rfl, rfl, trivial⟩ ?_
  refine loop_up (P := fun i => XJ G d (0, 0) MX12_markOf (mm ad σ) [(0, .ref (ad 99)), (1, .int r), (2, .int l), (3, .int q), (4, .int (spMark σ r l q i)), (5, .int (nI i))] [] 6 Q) (n := cn σ 49) ?_ ?_ 0 (Nat.zero_le _)
  · refine x_iload dX12_markOf_6 rfl ?_
    refine x_aload_n dX12_markOf_8 rfl rfl ?_
    refine xm_geti dX12_markOf_9 lf_X12_335 vmi_49 ?_
    refine x_icmp_ge (tgt := 63) dX12_markOf_12 (by decide) (fun _ => ?_) (fun z => absurd (loopT hl1) z)
    refine x_iload dX12_markOf_63 rfl ?_
    exact x_ireturn dX12_markOf_65 rfl rfl (hq)
  · intro i hlt ih
    have hin : vp_in (nI i) 200 := vp_in_nI (by omega) (by decide)
    have hcl : (nI i).toNatClampNeg = i := nI_clamp (by omega)
    refine x_iload dX12_markOf_6 rfl ?_
    refine x_aload_n dX12_markOf_8 rfl rfl ?_
    refine xm_geti dX12_markOf_9 lf_X12_335 vmi_49 ?_
    refine x_icmp_ge (tgt := 63) dX12_markOf_12 (by decide) (fun z => absurd z (loopF hl1 hlt (by omega))) (fun _ => ?_)
    refine x_aload_n dX12_markOf_15 rfl rfl ?_
    refine xm_geta dX12_markOf_16 lf_X12_93 vma_45 ?_
    refine x_iload dX12_markOf_19 rfl ?_
    refine xm_iald 45 dX12_markOf_21 mf_45 hi hin hcl ?_
    refine x_iload_n dX12_markOf_22 rfl rfl ?_
    refine x_icmp_ne (tgt := 57) dX12_markOf_23 (by decide) (fun h23 => ?_) (fun h23 => ?_)
    · refine x_iinc (c := 1) dX12_markOf_57 rfl (by decide) ?_
      refine x_goto (tgt := 6) dX12_markOf_60 (by decide) ?_
      refine x_loc _ (?_ : lle _ _) ih
      refine ⟨rfl, rfl, rfl, rfl, ?_, ?_, trivial⟩
      · show some (Value.int _) = some (Value.int (if σ.2 45 i = r ∧ σ.2 46 i = l ∧ σ.2 48 i ≤ q then σ.2 47 i else spMark σ r l q i))
        clear ih hq; grind
      · show some (Value.int _) = some (Value.int (nI (i + 1)))
        rw [← nI_1]
    · refine x_aload_n dX12_markOf_26 rfl rfl ?_
      refine xm_geta dX12_markOf_27 lf_X12_96 vma_46 ?_
      refine x_iload dX12_markOf_30 rfl ?_
      refine xm_iald 46 dX12_markOf_32 mf_46 hi hin hcl ?_
      refine x_iload_n dX12_markOf_33 rfl rfl ?_
      refine x_icmp_ne (tgt := 57) dX12_markOf_34 (by decide) (fun h34 => ?_) (fun h34 => ?_)
      · refine x_iinc (c := 1) dX12_markOf_57 rfl (by decide) ?_
        refine x_goto (tgt := 6) dX12_markOf_60 (by decide) ?_
        refine x_loc _ (?_ : lle _ _) ih
        refine ⟨rfl, rfl, rfl, rfl, ?_, ?_, trivial⟩
        · show some (Value.int _) = some (Value.int (if σ.2 45 i = r ∧ σ.2 46 i = l ∧ σ.2 48 i ≤ q then σ.2 47 i else spMark σ r l q i))
          clear ih hq; grind
        · show some (Value.int _) = some (Value.int (nI (i + 1)))
          rw [← nI_1]
      · refine x_aload_n dX12_markOf_37 rfl rfl ?_
        refine xm_geta dX12_markOf_38 lf_X12_102 vma_48 ?_
        refine x_iload dX12_markOf_41 rfl ?_
        refine xm_iald 48 dX12_markOf_43 mf_48 hi hin hcl ?_
        refine x_iload_n dX12_markOf_44 rfl rfl ?_
        refine x_icmp_gt (tgt := 57) dX12_markOf_45 (by decide) (fun h45 => ?_) (fun h45 => ?_)
        · refine x_iinc (c := 1) dX12_markOf_57 rfl (by decide) ?_
          refine x_goto (tgt := 6) dX12_markOf_60 (by decide) ?_
          refine x_loc _ (?_ : lle _ _) ih
          refine ⟨rfl, rfl, rfl, rfl, ?_, ?_, trivial⟩
          · show some (Value.int _) = some (Value.int (if σ.2 45 i = r ∧ σ.2 46 i = l ∧ σ.2 48 i ≤ q then σ.2 47 i else spMark σ r l q i))
            clear ih hq; grind
          · show some (Value.int _) = some (Value.int (nI (i + 1)))
            rw [← nI_1]
        · refine x_aload_n dX12_markOf_48 rfl rfl ?_
          refine xm_geta dX12_markOf_49 lf_X12_99 vma_47 ?_
          refine x_iload dX12_markOf_52 rfl ?_
          refine xm_iald 47 dX12_markOf_54 mf_47 hi hin hcl ?_
          refine x_istore dX12_markOf_55 (by decide) ?_
          refine x_iinc (c := 1) dX12_markOf_57 rfl (by decide) ?_
          refine x_goto (tgt := 6) dX12_markOf_60 (by decide) ?_
          refine x_loc _ (?_ : lle _ _) ih
          refine ⟨rfl, rfl, rfl, rfl, ?_, ?_, trivial⟩
          · show some (Value.int _) = some (Value.int (if σ.2 45 i = r ∧ σ.2 46 i = l ∧ σ.2 48 i ≤ q then σ.2 47 i else spMark σ r l q i))
            clear ih hq; grind
          · show some (Value.int _) = some (Value.int (nI (i + 1)))
            rw [← nI_1]
theorem c_X12_marked {r l q : Int32} (hi : adOK ad) (h0 : seti σ 0 0 = σ0) (hc : Cnt σ0) (hq : Q (some (.int (aMarked σ0 r l q))) (mm ad σ0)) : CT G (d + 2) (0, 0) MX12_marked [.ref (ad 99), .int r, .int l, .int q] (mm ad σ) Q := by
  refine CT.of rfl (Nat.le_of_ble_eq_true rfl) ?_
  refine x_aload_n dX12_marked_0 rfl rfl ?_
  refine x_iconst (v := 0) dX12_marked_1 (by decide) ?_
  refine xm_puti dX12_marked_2 lp_X12_138 vmq_0 vmn_0 vmf_0 ?_
  rw [h0]
  refine x_iload_n dX12_marked_5 rfl rfl ?_
  refine x_cS1 dX12_marked_6 ls_X12_338 rfl  (c_X12_isReader ?_)
  refine x_if_eq_b (tgt := 38) dX12_marked_9 (by decide) (fun h9 => ?_) (fun h9 => ?_)
  · refine x_iconst (v := -1) dX12_marked_38 (by decide) ?_
    exact x_ireturn dX12_marked_39 rfl rfl (by first | exact fan_t hq ⟨h9, h17, h25⟩ | exact fan_f hq (fun z => h9 z.1) | exact fan_f hq (fun z => h17 z.2.1) | exact fan_f hq (fun z => h25 z.2.2))
  · refine x_aload_n dX12_marked_12 rfl rfl ?_
    refine x_iload_n dX12_marked_13 rfl rfl ?_
    refine x_cV1 dX12_marked_14 lv_X12_155 mm_obj rfl rfl rfl  (c_X12_isLine ?_)
    refine x_if_eq_b (tgt := 38) dX12_marked_17 (by decide) (fun h17 => ?_) (fun h17 => ?_)
    · refine x_iconst (v := -1) dX12_marked_38 (by decide) ?_
      exact x_ireturn dX12_marked_39 rfl rfl (by first | exact fan_t hq ⟨h9, h17, h25⟩ | exact fan_f hq (fun z => h9 z.1) | exact fan_f hq (fun z => h17 z.2.1) | exact fan_f hq (fun z => h25 z.2.2))
    · refine x_aload_n dX12_marked_20 rfl rfl ?_
      refine x_iload_n dX12_marked_21 rfl rfl ?_
      refine x_cV1 dX12_marked_22 lv_X12_159 mm_obj rfl rfl rfl  (c_X12_isKnown ?_)
      refine x_if_eq_b (tgt := 38) dX12_marked_25 (by decide) (fun h25 => ?_) (fun h25 => ?_)
      · refine x_iconst (v := -1) dX12_marked_38 (by decide) ?_
        exact x_ireturn dX12_marked_39 rfl rfl (by first | exact fan_t hq ⟨h9, h17, h25⟩ | exact fan_f hq (fun z => h9 z.1) | exact fan_f hq (fun z => h17 z.2.1) | exact fan_f hq (fun z => h25 z.2.2))
      · refine x_aload_n dX12_marked_28 rfl rfl ?_
        refine x_iload_n dX12_marked_29 rfl rfl ?_
        refine x_iload_n dX12_marked_30 rfl rfl ?_
        refine x_iload_n dX12_marked_31 rfl rfl ?_
        refine x_cV3 dX12_marked_32 lv_X12_341 mm_obj rfl rfl rfl  (c_X12_markOf hi hc ?_)
        refine x_goto (tgt := 39) dX12_marked_35 (by decide) ?_
        exact x_ireturn dX12_marked_39 rfl rfl (by first | exact fan_t hq ⟨h9, h17, h25⟩ | exact fan_f hq (fun z => h9 z.1) | exact fan_f hq (fun z => h17 z.2.1) | exact fan_f hq (fun z => h25 z.2.2))
theorem c_X12_agree {one other q what : Int32} (hi : adOK ad) (h0 : seti σ 0 0 = σ0) (hc : Cnt σ0) (hq : Q (some (.int (aAgree σ0 one other q what))) (mm ad σ0)) : CT G (d + 2) (0, 0) MX12_agree [.ref (ad 99), .int one, .int other, .int q, .int what] (mm ad σ) Q := by
  obtain ⟨hl1, hl2⟩ := hc.b 16 (b := 200) (by decide)
  refine CT.of rfl (Nat.le_of_ble_eq_true rfl) ?_
  refine x_aload_n dX12_agree_0 rfl rfl ?_
  refine x_iconst (v := 0) dX12_agree_1 (by decide) ?_
  refine xm_puti dX12_agree_2 lp_X12_138 vmq_0 vmn_0 vmf_0 ?_
  rw [h0]
  refine x_iload_n dX12_agree_5 rfl rfl ?_
  refine x_cS1 dX12_agree_6 ls_X12_338 rfl  (c_X12_isReader ?_)
  refine x_if_eq_b (tgt := 42) dX12_agree_9 (by decide) (fun h9 => ?_) (fun h9 => ?_)
  · refine x_iconst (v := -1) dX12_agree_42 (by decide) ?_
    exact x_ireturn dX12_agree_43 rfl rfl (fan_f hq (fun z => by first | exact h9 z.1 | exact h16 z.2.1 | exact z.2.2.1 h21 | exact h29 z.2.2.2.1 | exact h39 z.2.2.2.2))
  · refine x_iload_n dX12_agree_12 rfl rfl ?_
    refine x_cS1 dX12_agree_13 ls_X12_338 rfl  (c_X12_isReader ?_)
    refine x_if_eq_b (tgt := 42) dX12_agree_16 (by decide) (fun h16 => ?_) (fun h16 => ?_)
    · refine x_iconst (v := -1) dX12_agree_42 (by decide) ?_
      exact x_ireturn dX12_agree_43 rfl rfl (fan_f hq (fun z => by first | exact h9 z.1 | exact h16 z.2.1 | exact z.2.2.1 h21 | exact h29 z.2.2.2.1 | exact h39 z.2.2.2.2))
    · refine x_iload_n dX12_agree_19 rfl rfl ?_
      refine x_iload_n dX12_agree_20 rfl rfl ?_
      refine x_icmp_eq (tgt := 42) dX12_agree_21 (by decide) (fun h21 => ?_) (fun h21 => ?_)
      · refine x_iconst (v := -1) dX12_agree_42 (by decide) ?_
        exact x_ireturn dX12_agree_43 rfl rfl (fan_f hq (fun z => by first | exact h9 z.1 | exact h16 z.2.1 | exact z.2.2.1 h21 | exact h29 z.2.2.2.1 | exact h39 z.2.2.2.2))
      · refine x_aload_n dX12_agree_24 rfl rfl ?_
        refine x_iload_n dX12_agree_25 rfl rfl ?_
        refine x_cV1 dX12_agree_26 lv_X12_159 mm_obj rfl rfl rfl  (c_X12_isKnown ?_)
        refine x_if_eq_b (tgt := 42) dX12_agree_29 (by decide) (fun h29 => ?_) (fun h29 => ?_)
        · refine x_iconst (v := -1) dX12_agree_42 (by decide) ?_
          exact x_ireturn dX12_agree_43 rfl rfl (fan_f hq (fun z => by first | exact h9 z.1 | exact h16 z.2.1 | exact z.2.2.1 h21 | exact h29 z.2.2.2.1 | exact h39 z.2.2.2.2))
        · refine x_iload dX12_agree_32 rfl ?_
          refine x_iconst (v := 0) dX12_agree_34 (by decide) ?_
          refine x_iconst (v := 1) dX12_agree_35 (by decide) ?_
          refine x_cS3 dX12_agree_36 ls_X12_145 rfl  (c_X12_isIn ?_)
          refine x_if_ne_b (tgt := 44) dX12_agree_39 (by decide) (fun h39 => ?_) (fun h39 => ?_)
          · have hq := fan_t hq ⟨h9, h16, h21, h29, h39⟩
            refine x_iconst (v := 0) dX12_agree_44 (by decide) ?_
            refine x_istore dX12_agree_45 (by decide) ?_
            refine x_iconst (v := 0) dX12_agree_47 (by decide) ?_
            refine x_istore dX12_agree_48 (by decide) ?_
            refine x_loc [(0, .ref (ad 99)), (1, .int one), (2, .int other), (3, .int q), (4, .int what), (5, .int (spAgree σ0 one other q what 0)), (6, .int (nI 0))] ⟨rfl, rfl, rfl, rfl, rfl, rfl, rfl, trivial⟩ ?_
            refine loop_up (P := fun i => XJ G (d + 2) (0, 0) MX12_agree (mm ad σ0) [(0, .ref (ad 99)), (1, .int one), (2, .int other), (3, .int q), (4, .int what), (5, .int (spAgree σ0 one other q what i)), (6, .int (nI i))] [] 50 Q) (n := cn σ0 16) ?_ ?_ 0 (Nat.zero_le _)
            · refine x_iload dX12_agree_50 rfl ?_
              refine x_aload_n dX12_agree_52 rfl rfl ?_
              refine xm_geti dX12_agree_53 lf_X12_152 vmi_16 ?_
              refine x_icmp_ge (tgt := 120) dX12_agree_56 (by decide) (fun _ => ?_) (fun z => absurd (loopT hl1) z)
              refine x_iload dX12_agree_120 rfl ?_
              exact x_ireturn dX12_agree_122 rfl rfl (hq)
            · intro i hlt ih
              refine x_iload dX12_agree_50 rfl ?_
              refine x_aload_n dX12_agree_52 rfl rfl ?_
              refine xm_geti dX12_agree_53 lf_X12_152 vmi_16 ?_
              refine x_icmp_ge (tgt := 120) dX12_agree_56 (by decide) (fun z => absurd z (loopF hl1 hlt (by omega))) (fun _ => ?_)
              refine x_aload_n dX12_agree_59 rfl rfl ?_
              refine x_iload_n dX12_agree_60 rfl rfl ?_
              refine x_iload dX12_agree_61 rfl ?_
              refine x_iload_n dX12_agree_63 rfl rfl ?_
              refine x_cV3 dX12_agree_64 lv_X12_341 mm_obj rfl rfl rfl  (c_X12_markOf hi hc ?_)
              refine x_istore dX12_agree_67 (by decide) ?_
              refine x_aload_n dX12_agree_69 rfl rfl ?_
              refine x_iload_n dX12_agree_70 rfl rfl ?_
              refine x_iload dX12_agree_71 rfl ?_
              refine x_iload_n dX12_agree_73 rfl rfl ?_
              refine x_cV3 dX12_agree_74 lv_X12_341 mm_obj rfl rfl rfl  (c_X12_markOf hi hc ?_)
              refine x_istore dX12_agree_77 (by decide) ?_
              refine x_iload dX12_agree_79 rfl ?_
              refine x_iload dX12_agree_81 rfl ?_
              refine x_iconst (v := -1) dX12_agree_83 (by decide) ?_
              refine x_icmp_eq (tgt := 110) dX12_agree_84 (by decide) (fun h84 => ?_) (fun h84 => ?_)
              · refine x_iconst (v := 0) dX12_agree_110 (by decide) ?_
                refine x_iadd dX12_agree_111 ?_
                refine x_istore dX12_agree_112 (by decide) ?_
                refine x_iinc (c := 1) dX12_agree_114 rfl (by decide) ?_
                refine x_goto (tgt := 50) dX12_agree_117 (by decide) ?_
                refine x_loc _ (?_ : lle _ _) ih
                refine ⟨rfl, rfl, rfl, rfl, rfl, ?_, ?_, trivial⟩
                · show some (Value.int _) = some (Value.int (if mk σ0 q one i ≠ -1 ∧ mk σ0 q other i ≠ -1 ∧ (what = 1 ∨ mk σ0 q one i = mk σ0 q other i) then spAgree σ0 one other q what i + 1 else spAgree σ0 one other q what i))
                  clear ih hq; grind [mk, Int32.add_zero]
                · show some (Value.int _) = some (Value.int (nI (i + 1)))
                  rw [← nI_1]
              · refine x_iload dX12_agree_87 rfl ?_
                refine x_iconst (v := -1) dX12_agree_89 (by decide) ?_
                refine x_icmp_eq (tgt := 110) dX12_agree_90 (by decide) (fun h90 => ?_) (fun h90 => ?_)
                · refine x_iconst (v := 0) dX12_agree_110 (by decide) ?_
                  refine x_iadd dX12_agree_111 ?_
                  refine x_istore dX12_agree_112 (by decide) ?_
                  refine x_iinc (c := 1) dX12_agree_114 rfl (by decide) ?_
                  refine x_goto (tgt := 50) dX12_agree_117 (by decide) ?_
                  refine x_loc _ (?_ : lle _ _) ih
                  refine ⟨rfl, rfl, rfl, rfl, rfl, ?_, ?_, trivial⟩
                  · show some (Value.int _) = some (Value.int (if mk σ0 q one i ≠ -1 ∧ mk σ0 q other i ≠ -1 ∧ (what = 1 ∨ mk σ0 q one i = mk σ0 q other i) then spAgree σ0 one other q what i + 1 else spAgree σ0 one other q what i))
                    clear ih hq; grind [mk, Int32.add_zero]
                  · show some (Value.int _) = some (Value.int (nI (i + 1)))
                    rw [← nI_1]
                · refine x_iload dX12_agree_93 rfl ?_
                  refine x_iconst (v := 1) dX12_agree_95 (by decide) ?_
                  refine x_icmp_eq (tgt := 106) dX12_agree_96 (by decide) (fun h96 => ?_) (fun h96 => ?_)
                  · refine x_iconst (v := 1) dX12_agree_106 (by decide) ?_
                    refine x_goto (tgt := 111) dX12_agree_107 (by decide) ?_
                    refine x_iadd dX12_agree_111 ?_
                    refine x_istore dX12_agree_112 (by decide) ?_
                    refine x_iinc (c := 1) dX12_agree_114 rfl (by decide) ?_
                    refine x_goto (tgt := 50) dX12_agree_117 (by decide) ?_
                    refine x_loc _ (?_ : lle _ _) ih
                    refine ⟨rfl, rfl, rfl, rfl, rfl, ?_, ?_, trivial⟩
                    · show some (Value.int _) = some (Value.int (if mk σ0 q one i ≠ -1 ∧ mk σ0 q other i ≠ -1 ∧ (what = 1 ∨ mk σ0 q one i = mk σ0 q other i) then spAgree σ0 one other q what i + 1 else spAgree σ0 one other q what i))
                      clear ih hq; grind [mk, Int32.add_zero]
                    · show some (Value.int _) = some (Value.int (nI (i + 1)))
                      rw [← nI_1]
                  · refine x_iload dX12_agree_99 rfl ?_
                    refine x_iload dX12_agree_101 rfl ?_
                    refine x_icmp_ne (tgt := 110) dX12_agree_103 (by decide) (fun h103 => ?_) (fun h103 => ?_)
                    · refine x_iconst (v := 0) dX12_agree_110 (by decide) ?_
                      refine x_iadd dX12_agree_111 ?_
                      refine x_istore dX12_agree_112 (by decide) ?_
                      refine x_iinc (c := 1) dX12_agree_114 rfl (by decide) ?_
                      refine x_goto (tgt := 50) dX12_agree_117 (by decide) ?_
                      refine x_loc _ (?_ : lle _ _) ih
                      refine ⟨rfl, rfl, rfl, rfl, rfl, ?_, ?_, trivial⟩
                      · show some (Value.int _) = some (Value.int (if mk σ0 q one i ≠ -1 ∧ mk σ0 q other i ≠ -1 ∧ (what = 1 ∨ mk σ0 q one i = mk σ0 q other i) then spAgree σ0 one other q what i + 1 else spAgree σ0 one other q what i))
                        clear ih hq; grind [mk, Int32.add_zero]
                      · show some (Value.int _) = some (Value.int (nI (i + 1)))
                        rw [← nI_1]
                    · refine x_iconst (v := 1) dX12_agree_106 (by decide) ?_
                      refine x_goto (tgt := 111) dX12_agree_107 (by decide) ?_
                      refine x_iadd dX12_agree_111 ?_
                      refine x_istore dX12_agree_112 (by decide) ?_
                      refine x_iinc (c := 1) dX12_agree_114 rfl (by decide) ?_
                      refine x_goto (tgt := 50) dX12_agree_117 (by decide) ?_
                      refine x_loc _ (?_ : lle _ _) ih
                      refine ⟨rfl, rfl, rfl, rfl, rfl, ?_, ?_, trivial⟩
                      · show some (Value.int _) = some (Value.int (if mk σ0 q one i ≠ -1 ∧ mk σ0 q other i ≠ -1 ∧ (what = 1 ∨ mk σ0 q one i = mk σ0 q other i) then spAgree σ0 one other q what i + 1 else spAgree σ0 one other q what i))
                        clear ih hq; grind [mk, Int32.add_zero]
                      · show some (Value.int _) = some (Value.int (nI (i + 1)))
                        rw [← nI_1]
          · refine x_iconst (v := -1) dX12_agree_42 (by decide) ?_
            exact x_ireturn dX12_agree_43 rfl rfl (fan_f hq (fun z => by first | exact h9 z.1 | exact h16 z.2.1 | exact z.2.2.1 h21 | exact h29 z.2.2.2.1 | exact h39 z.2.2.2.2))
theorem c_X12_land {a b c : Int32} (hi : adOK ad) (h0 : seti σ 0 0 = σ0) (hq : Q (some (.int (aLand a b c))) (mm ad (nLand σ0 a b c))) : CT G (d + 1) (0, 0) MX12_land [.ref (ad 99), .int a, .int b, .int c] (mm ad σ) Q := by
  refine CT.of rfl (Nat.le_of_ble_eq_true rfl) ?_
  refine x_aload_n dX12_land_0 rfl rfl ?_
  refine x_iconst (v := 0) dX12_land_1 (by decide) ?_
  refine xm_puti dX12_land_2 lp_X12_138 vmq_0 vmn_0 vmf_0 ?_
  rw [h0]
  refine x_iload_n dX12_land_5 rfl rfl ?_
  refine x_iconst (v := 0) dX12_land_6 (by decide) ?_
  refine x_bipush (v := 7) dX12_land_7 (by decide) ?_
  refine x_cS3 dX12_land_9 ls_X12_145 rfl  (c_X12_isIn ?_)
  refine x_if_eq_b (tgt := 35) dX12_land_12 (by decide) (fun h12 => ?_) (fun h12 => ?_)
  · refine x_iconst (v := 0) dX12_land_35 (by decide) ?_
    exact x_ireturn dX12_land_36 rfl rfl (fbn_f (m := mm ad) hq (fun z => by first | exact h12 z.1 | exact h21 z.2.1 | exact h32 z.2.2))
  · refine x_iload_n dX12_land_15 rfl rfl ?_
    refine x_iconst (v := 0) dX12_land_16 (by decide) ?_
    refine x_iconst (v := 3) dX12_land_17 (by decide) ?_
    refine x_cS3 dX12_land_18 ls_X12_145 rfl  (c_X12_isIn ?_)
    refine x_if_eq_b (tgt := 35) dX12_land_21 (by decide) (fun h21 => ?_) (fun h21 => ?_)
    · refine x_iconst (v := 0) dX12_land_35 (by decide) ?_
      exact x_ireturn dX12_land_36 rfl rfl (fbn_f (m := mm ad) hq (fun z => by first | exact h12 z.1 | exact h21 z.2.1 | exact h32 z.2.2))
    · refine x_iload_n dX12_land_24 rfl rfl ?_
      refine x_iconst (v := 0) dX12_land_25 (by decide) ?_
      refine x_sipush (v := 9999) dX12_land_26 (by decide) ?_
      refine x_cS3 dX12_land_29 ls_X12_145 rfl  (c_X12_isIn ?_)
      refine x_if_ne_b (tgt := 37) dX12_land_32 (by decide) (fun h32 => ?_) (fun h32 => ?_)
      · obtain ⟨j1, hj1, e1⟩ := nI_of2 (M := 7) (n := 7) rfl (Int32.not_lt.mpr h12.1) h12.2
        obtain ⟨j2, hj2, e2⟩ := nI_of2 (M := 3) (n := 3) rfl (Int32.not_lt.mpr h21.1) h21.2
        have hin : vp_in (4 * a + b) 32 := by
          rw [e1, e2, show (4 : Int32) = nI 4 from rfl, pk_mul, nI_add]
          exact vp_in_nI (by omega) (by decide)
        refine x_aload_n dX12_land_37 rfl rfl ?_
        refine xm_geta dX12_land_38 lf_X12_105 vma_50 ?_
        refine x_iconst (v := 4) dX12_land_41 (by decide) ?_
        refine x_iload_n dX12_land_42 rfl rfl ?_
        refine x_imul dX12_land_43 ?_
        refine x_iload_n dX12_land_44 rfl rfl ?_
        refine x_iadd dX12_land_45 ?_
        refine x_iload_n dX12_land_46 rfl rfl ?_
        refine xm_iast 50 dX12_land_47 mf_50 hi hin rfl ?_
        refine x_iconst (v := 1) dX12_land_48 (by decide) ?_
        exact x_ireturn dX12_land_49 rfl rfl (fbn_t (m := mm ad) hq ⟨h12, h21, h32⟩)
      · refine x_iconst (v := 0) dX12_land_35 (by decide) ?_
        exact x_ireturn dX12_land_36 rfl rfl (fbn_f (m := mm ad) hq (fun z => by first | exact h12 z.1 | exact h21 z.2.1 | exact h32 z.2.2))
theorem c_X12_people (hi : adOK ad) (hq : Q (some (.int (spPeople σ 32))) (mm ad σ)) : CT G d (0, 0) MX12_people [.ref (ad 99)] (mm ad σ) Q := by
  refine CT.of rfl (Nat.le_of_ble_eq_true rfl) ?_
  refine x_iconst (v := 0) dX12_people_0 (by decide) ?_
  refine x_istore_n dX12_people_1 rfl (by decide) ?_
  refine x_iconst (v := 0) dX12_people_2 (by decide) ?_
  refine x_istore_n dX12_people_3 rfl (by decide) ?_
  refine x_loc [(0, .ref (ad 99)), (1, .int (spPeople σ 0)), (2, .int (nI 0))] ⟨rfl, rfl, rfl, trivial⟩ ?_
  refine loop_up (P := fun i => XJ G d (0, 0) MX12_people (mm ad σ) [(0, .ref (ad 99)), (1, .int (spPeople σ i)), (2, .int (nI i))] [] 4 Q) (n := 32) ?_ ?_ 0 (Nat.zero_le _)
  · refine x_iload_n dX12_people_4 rfl rfl ?_
    refine x_bipush (v := 32) dX12_people_5 (by decide) ?_
    refine x_icmp_ge (tgt := 25) dX12_people_7 (by decide) (fun _ => ?_) (fun z => absurd (loopT (show (32 : Int32) = nI 32 from rfl)) z)
    refine x_iload_n dX12_people_25 rfl rfl ?_
    exact x_ireturn dX12_people_26 rfl rfl (hq)
  · intro i hlt ih
    have hin : vp_in (nI i) 32 := vp_in_nI (by omega) (by decide)
    have hcl : (nI i).toNatClampNeg = i := nI_clamp (by omega)
    refine x_iload_n dX12_people_4 rfl rfl ?_
    refine x_bipush (v := 32) dX12_people_5 (by decide) ?_
    refine x_icmp_ge (tgt := 25) dX12_people_7 (by decide) (fun z => absurd z (loopF (show (32 : Int32) = nI 32 from rfl) hlt (by omega))) (fun _ => ?_)
    refine x_iload_n dX12_people_10 rfl rfl ?_
    refine x_aload_n dX12_people_11 rfl rfl ?_
    refine xm_geta dX12_people_12 lf_X12_105 vma_50 ?_
    refine x_iload_n dX12_people_15 rfl rfl ?_
    refine xm_iald 50 dX12_people_16 mf_50 hi hin hcl ?_
    refine x_iadd dX12_people_17 ?_
    refine x_istore_n dX12_people_18 rfl (by decide) ?_
    refine x_iinc (c := 1) dX12_people_19 rfl (by decide) ?_
    refine x_goto (tgt := 4) dX12_people_22 (by decide) ?_
    refine x_loc _ (?_ : lle _ _) ih
    refine ⟨rfl, ?_, ?_, trivial⟩
    · rfl
    · show some (Value.int _) = some (Value.int (nI (i + 1)))
      rw [← nI_1]
theorem c_X12_mood {day q what : Int32} (hi : adOK ad) (h0 : seti σ 0 0 = σ0) (hc : Cnt σ0) (hq : Q (some (.int (aMood σ0 day q what))) (mm ad σ0)) : CT G (d + 2) (0, 0) MX12_mood [.ref (ad 99), .int day, .int q, .int what] (mm ad σ) Q := by
  obtain ⟨hl1, hl2⟩ := hc.b 16 (b := 200) (by decide)
  refine CT.of rfl (Nat.le_of_ble_eq_true rfl) ?_
  refine x_aload_n dX12_mood_0 rfl rfl ?_
  refine x_iconst (v := 0) dX12_mood_1 (by decide) ?_
  refine xm_puti dX12_mood_2 lp_X12_138 vmq_0 vmn_0 vmf_0 ?_
  rw [h0]
  refine x_iload_n dX12_mood_5 rfl rfl ?_
  refine x_cS1 dX12_mood_6 ls_X12_175 rfl  (c_X12_isDay ?_)
  refine x_if_eq_b (tgt := 29) dX12_mood_9 (by decide) (fun h9 => ?_) (fun h9 => ?_)
  · refine x_ldcw dX12_mood_29 tb1622 ?_
    exact x_ireturn dX12_mood_32 rfl rfl (fan_f hq (fun z => by first | exact h9 z.1 | exact h17 z.2.1 | exact h26 z.2.2))
  · refine x_aload_n dX12_mood_12 rfl rfl ?_
    refine x_iload_n dX12_mood_13 rfl rfl ?_
    refine x_cV1 dX12_mood_14 lv_X12_159 mm_obj rfl rfl rfl  (c_X12_isKnown ?_)
    refine x_if_eq_b (tgt := 29) dX12_mood_17 (by decide) (fun h17 => ?_) (fun h17 => ?_)
    · refine x_ldcw dX12_mood_29 tb1622 ?_
      exact x_ireturn dX12_mood_32 rfl rfl (fan_f hq (fun z => by first | exact h9 z.1 | exact h17 z.2.1 | exact h26 z.2.2))
    · refine x_iload_n dX12_mood_20 rfl rfl ?_
      refine x_iconst (v := 0) dX12_mood_21 (by decide) ?_
      refine x_iconst (v := 1) dX12_mood_22 (by decide) ?_
      refine x_cS3 dX12_mood_23 ls_X12_145 rfl  (c_X12_isIn ?_)
      refine x_if_ne_b (tgt := 33) dX12_mood_26 (by decide) (fun h26 => ?_) (fun h26 => ?_)
      · have hq := fan_t hq ⟨h9, h17, h26⟩
        refine x_iconst (v := 0) dX12_mood_33 (by decide) ?_
        refine x_istore dX12_mood_34 (by decide) ?_
        refine x_iconst (v := 0) dX12_mood_36 (by decide) ?_
        refine x_istore dX12_mood_37 (by decide) ?_
        refine x_iconst (v := 0) dX12_mood_39 (by decide) ?_
        refine x_istore dX12_mood_40 (by decide) ?_
        refine x_loc [(0, .ref (ad 99)), (1, .int day), (2, .int q), (3, .int what), (4, .int (spMood σ0 day q 0).1), (5, .int (spMood σ0 day q 0).2), (6, .int (nI 0))] ⟨rfl, rfl, rfl, rfl, rfl, rfl, rfl, trivial⟩ ?_
        refine loop_up (P := fun i => XJ G (d + 2) (0, 0) MX12_mood (mm ad σ0) [(0, .ref (ad 99)), (1, .int day), (2, .int q), (3, .int what), (4, .int (spMood σ0 day q i).1), (5, .int (spMood σ0 day q i).2), (6, .int (nI i))] [] 42 Q) (n := cn σ0 16) ?_ ?_ 0 (Nat.zero_le _)
        · refine x_iload dX12_mood_42 rfl ?_
          refine x_aload_n dX12_mood_44 rfl rfl ?_
          refine xm_geti dX12_mood_45 lf_X12_152 vmi_16 ?_
          refine x_icmp_ge (tgt := 97) dX12_mood_48 (by decide) (fun _ => ?_) (fun z => absurd (loopT hl1) z)
          refine x_iload_n dX12_mood_97 rfl rfl ?_
          refine x_if_ne (tgt := 106) dX12_mood_98 (by decide) (fun h98 => ?_) (fun h98 => ?_)
          · refine x_iload dX12_mood_106 rfl ?_
            exact x_ireturn dX12_mood_108 rfl rfl (by first | (rw [if_pos h98] at hq; exact hq) | (rw [if_neg h98] at hq; exact hq))
          · refine x_iload dX12_mood_101 rfl ?_
            refine x_goto (tgt := 108) dX12_mood_103 (by decide) ?_
            exact x_ireturn dX12_mood_108 rfl rfl (by first | (rw [if_pos h98] at hq; exact hq) | (rw [if_neg h98] at hq; exact hq))
        · intro i hlt ih
          have hin : vp_in (nI i) 200 := vp_in_nI (by omega) (by decide)
          have hcl : (nI i).toNatClampNeg = i := nI_clamp (by omega)
          have hstep : spMood σ0 day q (i + 1) = if σ0.2 9 i = day ∧ σ0.2 14 i ≤ q then ((spMood σ0 day q i).1 + σ0.2 11 i, (spMood σ0 day q i).2 + 1) else spMood σ0 day q i := rfl
          refine x_iload dX12_mood_42 rfl ?_
          refine x_aload_n dX12_mood_44 rfl rfl ?_
          refine xm_geti dX12_mood_45 lf_X12_152 vmi_16 ?_
          refine x_icmp_ge (tgt := 97) dX12_mood_48 (by decide) (fun z => absurd z (loopF hl1 hlt (by omega))) (fun _ => ?_)
          refine x_aload_n dX12_mood_51 rfl rfl ?_
          refine xm_geta dX12_mood_52 lf_X12_31 vma_9 ?_
          refine x_iload dX12_mood_55 rfl ?_
          refine xm_iald 9 dX12_mood_57 mf_9 hi hin hcl ?_
          refine x_iload_n dX12_mood_58 rfl rfl ?_
          refine x_icmp_ne (tgt := 91) dX12_mood_59 (by decide) (fun h59 => ?_) (fun h59 => ?_)
          · refine x_iinc (c := 1) dX12_mood_91 rfl (by decide) ?_
            refine x_goto (tgt := 42) dX12_mood_94 (by decide) ?_
            refine x_loc _ (?_ : lle _ _) ih
            refine ⟨rfl, rfl, rfl, rfl, ?_, ?_, ?_, trivial⟩
            · show some (Value.int _) = some (Value.int (spMood σ0 day q (i + 1)).1)
              clear ih hq; grind
            · show some (Value.int _) = some (Value.int (spMood σ0 day q (i + 1)).2)
              clear ih hq; grind
            · show some (Value.int _) = some (Value.int (nI (i + 1)))
              rw [← nI_1]
          · refine x_aload_n dX12_mood_62 rfl rfl ?_
            refine xm_geta dX12_mood_63 lf_X12_46 vma_14 ?_
            refine x_iload dX12_mood_66 rfl ?_
            refine xm_iald 14 dX12_mood_68 mf_14 hi hin hcl ?_
            refine x_iload_n dX12_mood_69 rfl rfl ?_
            refine x_icmp_le (tgt := 76) dX12_mood_70 (by decide) (fun h70 => ?_) (fun h70 => ?_)
            · refine x_iload dX12_mood_76 rfl ?_
              refine x_aload_n dX12_mood_78 rfl rfl ?_
              refine xm_geta dX12_mood_79 lf_X12_37 vma_11 ?_
              refine x_iload dX12_mood_82 rfl ?_
              refine xm_iald 11 dX12_mood_84 mf_11 hi hin hcl ?_
              refine x_iadd dX12_mood_85 ?_
              refine x_istore dX12_mood_86 (by decide) ?_
              refine x_iinc (c := 1) dX12_mood_88 rfl (by decide) ?_
              refine x_iinc (c := 1) dX12_mood_91 rfl (by decide) ?_
              refine x_goto (tgt := 42) dX12_mood_94 (by decide) ?_
              refine x_loc _ (?_ : lle _ _) ih
              refine ⟨rfl, rfl, rfl, rfl, ?_, ?_, ?_, trivial⟩
              · show some (Value.int _) = some (Value.int (spMood σ0 day q (i + 1)).1)
                clear ih hq; grind
              · show some (Value.int _) = some (Value.int (spMood σ0 day q (i + 1)).2)
                clear ih hq; grind
              · show some (Value.int _) = some (Value.int (nI (i + 1)))
                rw [← nI_1]
            · refine x_goto (tgt := 91) dX12_mood_73 (by decide) ?_
              refine x_iinc (c := 1) dX12_mood_91 rfl (by decide) ?_
              refine x_goto (tgt := 42) dX12_mood_94 (by decide) ?_
              refine x_loc _ (?_ : lle _ _) ih
              refine ⟨rfl, rfl, rfl, rfl, ?_, ?_, ?_, trivial⟩
              · show some (Value.int _) = some (Value.int (spMood σ0 day q (i + 1)).1)
                clear ih hq; grind
              · show some (Value.int _) = some (Value.int (spMood σ0 day q (i + 1)).2)
                clear ih hq; grind
              · show some (Value.int _) = some (Value.int (nI (i + 1)))
                rw [← nI_1]
      · refine x_ldcw dX12_mood_29 tb1622 ?_
        exact x_ireturn dX12_mood_32 rfl rfl (fan_f hq (fun z => by first | exact h9 z.1 | exact h17 z.2.1 | exact h26 z.2.2))
theorem spLast_cases {σ : MS} {p q : Int32} : ∀ n, spLast σ p q n = -1 ∨ ∃ j, j < n ∧ spLast σ p q n = nI j := by
  intro n
  induction n with
  | zero => exact Or.inl rfl
  | succ n ih =>
    have e : spLast σ p q (n + 1) = if σ.2 8 n = p ∧ σ.2 14 n ≤ q ∧ (spLast σ p q n = -1 ∨ σ.2 9 (spLast σ p q n).toNatClampNeg ≤ σ.2 9 n) then nI n else spLast σ p q n := rfl
    rw [e]
    split
    · exact Or.inr ⟨n, by omega, rfl⟩
    · rcases ih with h | ⟨j, h1, h2⟩
      · exact Or.inl h
      · exact Or.inr ⟨j, by omega, h2⟩
theorem c_X12_lastOf {p q : Int32} (hi : adOK ad) (hc : Cnt σ) (hq : Q (some (.int (spLast σ p q (cn σ 16)))) (mm ad σ)) : CT G d (0, 0) MX12_lastOf [.ref (ad 99), .int p, .int q] (mm ad σ) Q := by
  obtain ⟨hl1, hl2⟩ := hc.b 16 (b := 200) (by decide)
  refine CT.of rfl (Nat.le_of_ble_eq_true rfl) ?_
  refine x_iconst (v := -1) dX12_lastOf_0 (by decide) ?_
  refine x_istore_n dX12_lastOf_1 rfl (by decide) ?_
  refine x_iconst (v := 0) dX12_lastOf_2 (by decide) ?_
  refine x_istore dX12_lastOf_3 (by decide) ?_
  refine x_loc [(0, .ref (ad 99)), (1, .int p), (2, .int q), (3, .int (spLast σ p q 0)), (4, .int (nI 0))] ⟨rfl, rfl, rfl, rfl, rfl, trivial⟩ ?_
  refine loop_up (P := fun i => XJ G d (0, 0) MX12_lastOf (mm ad σ) [(0, .ref (ad 99)), (1, .int p), (2, .int q), (3, .int (spLast σ p q i)), (4, .int (nI i))] [] 5 Q) (n := cn σ 16) ?_ ?_ 0 (Nat.zero_le _)
  · refine x_iload dX12_lastOf_5 rfl ?_
    refine x_aload_n dX12_lastOf_7 rfl rfl ?_
    refine xm_geti dX12_lastOf_8 lf_X12_152 vmi_16 ?_
    refine x_icmp_ge (tgt := 66) dX12_lastOf_11 (by decide) (fun _ => ?_) (fun z => absurd (loopT hl1) z)
    refine x_iload_n dX12_lastOf_66 rfl rfl ?_
    exact x_ireturn dX12_lastOf_67 rfl rfl (hq)
  · intro i hlt ih
    have hin : vp_in (nI i) 200 := vp_in_nI (by omega) (by decide)
    have hcl : (nI i).toNatClampNeg = i := nI_clamp (by omega)
    refine x_iload dX12_lastOf_5 rfl ?_
    refine x_aload_n dX12_lastOf_7 rfl rfl ?_
    refine xm_geti dX12_lastOf_8 lf_X12_152 vmi_16 ?_
    refine x_icmp_ge (tgt := 66) dX12_lastOf_11 (by decide) (fun z => absurd z (loopF hl1 hlt (by omega))) (fun _ => ?_)
    refine x_aload_n dX12_lastOf_14 rfl rfl ?_
    refine xm_geta dX12_lastOf_15 lf_X12_28 vma_8 ?_
    refine x_iload dX12_lastOf_18 rfl ?_
    refine xm_iald 8 dX12_lastOf_20 mf_8 hi hin hcl ?_
    refine x_iload_n dX12_lastOf_21 rfl rfl ?_
    refine x_icmp_ne (tgt := 60) dX12_lastOf_22 (by decide) (fun h22 => ?_) (fun h22 => ?_)
    · refine x_iinc (c := 1) dX12_lastOf_60 rfl (by decide) ?_
      refine x_goto (tgt := 5) dX12_lastOf_63 (by decide) ?_
      refine x_loc _ (?_ : lle _ _) ih
      refine ⟨rfl, rfl, rfl, ?_, ?_, trivial⟩
      · show some (Value.int _) = some (Value.int (if σ.2 8 i = p ∧ σ.2 14 i ≤ q ∧ (spLast σ p q i = -1 ∨ σ.2 9 (spLast σ p q i).toNatClampNeg ≤ σ.2 9 i) then nI i else spLast σ p q i))
        clear ih hq; grind
      · show some (Value.int _) = some (Value.int (nI (i + 1)))
        rw [← nI_1]
    · refine x_aload_n dX12_lastOf_25 rfl rfl ?_
      refine xm_geta dX12_lastOf_26 lf_X12_46 vma_14 ?_
      refine x_iload dX12_lastOf_29 rfl ?_
      refine xm_iald 14 dX12_lastOf_31 mf_14 hi hin hcl ?_
      refine x_iload_n dX12_lastOf_32 rfl rfl ?_
      refine x_icmp_gt (tgt := 60) dX12_lastOf_33 (by decide) (fun h33 => ?_) (fun h33 => ?_)
      · refine x_iinc (c := 1) dX12_lastOf_60 rfl (by decide) ?_
        refine x_goto (tgt := 5) dX12_lastOf_63 (by decide) ?_
        refine x_loc _ (?_ : lle _ _) ih
        refine ⟨rfl, rfl, rfl, ?_, ?_, trivial⟩
        · show some (Value.int _) = some (Value.int (if σ.2 8 i = p ∧ σ.2 14 i ≤ q ∧ (spLast σ p q i = -1 ∨ σ.2 9 (spLast σ p q i).toNatClampNeg ≤ σ.2 9 i) then nI i else spLast σ p q i))
          clear ih hq; grind
        · show some (Value.int _) = some (Value.int (nI (i + 1)))
          rw [← nI_1]
      · refine x_iload_n dX12_lastOf_36 rfl rfl ?_
        refine x_iconst (v := -1) dX12_lastOf_37 (by decide) ?_
        refine x_icmp_eq (tgt := 57) dX12_lastOf_38 (by decide) (fun h38 => ?_) (fun h38 => ?_)
        · refine x_iload dX12_lastOf_57 rfl ?_
          refine x_istore_n dX12_lastOf_59 rfl (by decide) ?_
          refine x_iinc (c := 1) dX12_lastOf_60 rfl (by decide) ?_
          refine x_goto (tgt := 5) dX12_lastOf_63 (by decide) ?_
          refine x_loc _ (?_ : lle _ _) ih
          refine ⟨rfl, rfl, rfl, ?_, ?_, trivial⟩
          · show some (Value.int _) = some (Value.int (if σ.2 8 i = p ∧ σ.2 14 i ≤ q ∧ (spLast σ p q i = -1 ∨ σ.2 9 (spLast σ p q i).toNatClampNeg ≤ σ.2 9 i) then nI i else spLast σ p q i))
            clear ih hq; grind
          · show some (Value.int _) = some (Value.int (nI (i + 1)))
            rw [← nI_1]
        · have hin2 : vp_in (spLast σ p q i) 200 := by
            rcases spLast_cases (σ := σ) (p := p) (q := q) i with h | ⟨j, h1, h2⟩
            · exact absurd h h38
            · rw [h2]; exact vp_in_nI (by omega) (by decide)
          refine x_aload_n dX12_lastOf_41 rfl rfl ?_
          refine xm_geta dX12_lastOf_42 lf_X12_31 vma_9 ?_
          refine x_iload dX12_lastOf_45 rfl ?_
          refine xm_iald 9 dX12_lastOf_47 mf_9 hi hin hcl ?_
          refine x_aload_n dX12_lastOf_48 rfl rfl ?_
          refine xm_geta dX12_lastOf_49 lf_X12_31 vma_9 ?_
          refine x_iload_n dX12_lastOf_52 rfl rfl ?_
          refine xm_iald 9 dX12_lastOf_53 mf_9 hi hin2 rfl ?_
          refine x_icmp_lt (tgt := 60) dX12_lastOf_54 (by decide) (fun h54 => ?_) (fun h54 => ?_)
          · refine x_iinc (c := 1) dX12_lastOf_60 rfl (by decide) ?_
            refine x_goto (tgt := 5) dX12_lastOf_63 (by decide) ?_
            refine x_loc _ (?_ : lle _ _) ih
            refine ⟨rfl, rfl, rfl, ?_, ?_, trivial⟩
            · show some (Value.int _) = some (Value.int (if σ.2 8 i = p ∧ σ.2 14 i ≤ q ∧ (spLast σ p q i = -1 ∨ σ.2 9 (spLast σ p q i).toNatClampNeg ≤ σ.2 9 i) then nI i else spLast σ p q i))
              clear ih hq; grind
            · show some (Value.int _) = some (Value.int (nI (i + 1)))
              rw [← nI_1]
          · refine x_iload dX12_lastOf_57 rfl ?_
            refine x_istore_n dX12_lastOf_59 rfl (by decide) ?_
            refine x_iinc (c := 1) dX12_lastOf_60 rfl (by decide) ?_
            refine x_goto (tgt := 5) dX12_lastOf_63 (by decide) ?_
            refine x_loc _ (?_ : lle _ _) ih
            refine ⟨rfl, rfl, rfl, ?_, ?_, trivial⟩
            · show some (Value.int _) = some (Value.int (if σ.2 8 i = p ∧ σ.2 14 i ≤ q ∧ (spLast σ p q i = -1 ∨ σ.2 9 (spLast σ p q i).toNatClampNeg ≤ σ.2 9 i) then nI i else spLast σ p q i))
              clear ih hq; grind
            · show some (Value.int _) = some (Value.int (nI (i + 1)))
              rw [← nI_1]
theorem c_X12_last {p q : Int32} (hi : adOK ad) (h0 : seti σ 0 0 = σ0) (hc : Cnt σ0) (hq : Q (some (.int (aLast σ0 p q))) (mm ad σ0)) : CT G (d + 2) (0, 0) MX12_last [.ref (ad 99), .int p, .int q] (mm ad σ) Q := by
  refine CT.of rfl (Nat.le_of_ble_eq_true rfl) ?_
  refine x_aload_n dX12_last_0 rfl rfl ?_
  refine x_iconst (v := 0) dX12_last_1 (by decide) ?_
  refine xm_puti dX12_last_2 lp_X12_138 vmq_0 vmn_0 vmf_0 ?_
  rw [h0]
  refine x_aload_n dX12_last_5 rfl rfl ?_
  refine x_iload_n dX12_last_6 rfl rfl ?_
  refine x_cV1 dX12_last_7 lv_X12_165 mm_obj rfl rfl rfl  (c_X12_isPerson ?_)
  refine x_if_eq_b (tgt := 30) dX12_last_10 (by decide) (fun h10 => ?_) (fun h10 => ?_)
  · refine x_iconst (v := -1) dX12_last_30 (by decide) ?_
    exact x_ireturn dX12_last_31 rfl rfl (by first | exact fan_t hq ⟨h10, h18⟩ | exact fan_f hq (fun z => h10 z.1) | exact fan_f hq (fun z => h18 z.2))
  · refine x_aload_n dX12_last_13 rfl rfl ?_
    refine x_iload_n dX12_last_14 rfl rfl ?_
    refine x_cV1 dX12_last_15 lv_X12_159 mm_obj rfl rfl rfl  (c_X12_isKnown ?_)
    refine x_if_eq_b (tgt := 30) dX12_last_18 (by decide) (fun h18 => ?_) (fun h18 => ?_)
    · refine x_iconst (v := -1) dX12_last_30 (by decide) ?_
      exact x_ireturn dX12_last_31 rfl rfl (by first | exact fan_t hq ⟨h10, h18⟩ | exact fan_f hq (fun z => h10 z.1) | exact fan_f hq (fun z => h18 z.2))
    · refine x_aload_n dX12_last_21 rfl rfl ?_
      refine x_iload_n dX12_last_22 rfl rfl ?_
      refine x_iload_n dX12_last_23 rfl rfl ?_
      refine x_cV2 dX12_last_24 lv_X12_363 mm_obj rfl rfl rfl  (c_X12_lastOf hi hc ?_)
      refine x_goto (tgt := 31) dX12_last_27 (by decide) ?_
      exact x_ireturn dX12_last_31 rfl rfl (by first | exact fan_t hq ⟨h10, h18⟩ | exact fan_f hq (fun z => h10 z.1) | exact fan_f hq (fun z => h18 z.2))
theorem c_X12_isStopped {p q : Int32} (hi : adOK ad) (hc : Cnt σ) (hq : Q (some (.int (bI (isG σ p q q)))) (mm ad σ)) : CT G (d + 1) (0, 0) MX12_isStopped [.ref (ad 99), .int p, .int q] (mm ad σ) Q := by
  refine CT.of rfl (Nat.le_of_ble_eq_true rfl) ?_
  refine x_aload_n dX12_isStopped_0 rfl rfl ?_
  refine x_iload_n dX12_isStopped_1 rfl rfl ?_
  refine x_iload_n dX12_isStopped_2 rfl rfl ?_
  refine x_cV2 dX12_isStopped_3 lv_X12_171 mm_obj rfl rfl rfl  (c_X12_stopsFrom hi hc ?_)
  refine x_istore_n dX12_isStopped_6 rfl (by decide) ?_
  refine x_iload_n dX12_isStopped_7 rfl rfl ?_
  refine x_iconst (v := -1) dX12_isStopped_8 (by decide) ?_
  refine x_icmp_eq (tgt := 21) dX12_isStopped_9 (by decide) (fun h9 => ?_) (fun h9 => ?_)
  · refine x_iconst (v := 0) dX12_isStopped_21 (by decide) ?_
    exact x_ireturn dX12_isStopped_22 rfl rfl (fin hq (by first | exact bI_t ⟨h9, Int32.not_lt.mp h14⟩ | exact bI_f (fun z => z.1 h9) | exact bI_f (fun z => absurd h14 (Int32.not_lt.mpr z.2))))
  · refine x_iload_n dX12_isStopped_12 rfl rfl ?_
    refine x_iload_n dX12_isStopped_13 rfl rfl ?_
    refine x_icmp_gt (tgt := 21) dX12_isStopped_14 (by decide) (fun h14 => ?_) (fun h14 => ?_)
    · refine x_iconst (v := 0) dX12_isStopped_21 (by decide) ?_
      exact x_ireturn dX12_isStopped_22 rfl rfl (fin hq (by first | exact bI_t ⟨h9, Int32.not_lt.mp h14⟩ | exact bI_f (fun z => z.1 h9) | exact bI_f (fun z => absurd h14 (Int32.not_lt.mpr z.2))))
    · refine x_iconst (v := 1) dX12_isStopped_17 (by decide) ?_
      refine x_goto (tgt := 22) dX12_isStopped_18 (by decide) ?_
      exact x_ireturn dX12_isStopped_22 rfl rfl (fin hq (by first | exact bI_t ⟨h9, Int32.not_lt.mp h14⟩ | exact bI_f (fun z => z.1 h9) | exact bI_f (fun z => absurd h14 (Int32.not_lt.mpr z.2))))
theorem c_X12_watcher {a b : Int32} (hi : adOK ad) (h0 : seti σ 0 0 = σ0) (hc : Cnt σ0) (hq : Q (some (.int (aWatch σ0 a b))) (mm ad (nWatch σ0 a b))) : CT G (d + 1) (0, 0) MX12_watcher [.ref (ad 99), .int a, .int b] (mm ad σ) Q := by
  obtain ⟨hl1, hl2⟩ := hc.b 59 (b := 4) (by decide)
  refine CT.of rfl (Nat.le_of_ble_eq_true rfl) ?_
  refine x_aload_n dX12_watcher_0 rfl rfl ?_
  refine x_iconst (v := 0) dX12_watcher_1 (by decide) ?_
  refine xm_puti dX12_watcher_2 lp_X12_138 vmq_0 vmn_0 vmf_0 ?_
  rw [h0]
  refine x_aload_n dX12_watcher_5 rfl rfl ?_
  refine xm_geti dX12_watcher_6 lf_X12_369 vmi_59 ?_
  refine x_iconst (v := 4) dX12_watcher_9 (by decide) ?_
  refine x_icmp_eq (tgt := 33) dX12_watcher_10 (by decide) (fun h10 => ?_) (fun h10 => ?_)
  · refine x_iconst (v := -1) dX12_watcher_33 (by decide) ?_
    exact x_ireturn dX12_watcher_34 rfl rfl (fin_f (m := mm ad) hq (fun z => by first | exact z.1 h10 | exact h20 z.2.1 | exact h30 z.2.2))
  · refine x_iload_n dX12_watcher_13 rfl rfl ?_
    refine x_iconst (v := 0) dX12_watcher_14 (by decide) ?_
    refine x_bipush (v := 23) dX12_watcher_15 (by decide) ?_
    refine x_cS3 dX12_watcher_17 ls_X12_145 rfl  (c_X12_isIn ?_)
    refine x_if_eq_b (tgt := 33) dX12_watcher_20 (by decide) (fun h20 => ?_) (fun h20 => ?_)
    · refine x_iconst (v := -1) dX12_watcher_33 (by decide) ?_
      exact x_ireturn dX12_watcher_34 rfl rfl (fin_f (m := mm ad) hq (fun z => by first | exact z.1 h10 | exact h20 z.2.1 | exact h30 z.2.2))
    · refine x_iload_n dX12_watcher_23 rfl rfl ?_
      refine x_iload_n dX12_watcher_24 rfl rfl ?_
      refine x_bipush (v := 23) dX12_watcher_25 (by decide) ?_
      refine x_cS3 dX12_watcher_27 ls_X12_145 rfl  (c_X12_isIn ?_)
      refine x_if_ne_b (tgt := 35) dX12_watcher_30 (by decide) (fun h30 => ?_) (fun h30 => ?_)
      · have hin := in_cnt hl1 hl2 (v := 4) rfl h10 (by decide)
        refine x_aload_n dX12_watcher_35 rfl rfl ?_
        refine xm_geta dX12_watcher_36 lf_X12_111 vma_53 ?_
        refine x_aload_n dX12_watcher_39 rfl rfl ?_
        refine xm_geti dX12_watcher_40 lf_X12_369 vmi_59 ?_
        refine x_iload_n dX12_watcher_43 rfl rfl ?_
        refine xm_iast 53 dX12_watcher_44 mf_53 hi hin rfl ?_
        refine x_aload_n dX12_watcher_45 rfl rfl ?_
        refine xm_geta dX12_watcher_46 lf_X12_114 vma_54 ?_
        refine x_aload_n dX12_watcher_49 rfl rfl ?_
        refine xm_geti dX12_watcher_50 lf_X12_369 vmi_59 ?_
        refine x_iload_n dX12_watcher_53 rfl rfl ?_
        refine xm_iast 54 dX12_watcher_54 mf_54 hi hin rfl ?_
        refine x_aload_n dX12_watcher_55 rfl rfl ?_
        refine x_dup dX12_watcher_56 rfl ?_
        refine xm_geti dX12_watcher_57 lf_X12_369 vmi_59 ?_
        refine x_iconst (v := 1) dX12_watcher_60 (by decide) ?_
        refine x_iadd dX12_watcher_61 ?_
        refine xm_puti dX12_watcher_62 lp_X12_369 vmq_59 vmn_59 vmf_59 ?_
        refine x_aload_n dX12_watcher_65 rfl rfl ?_
        refine xm_geti dX12_watcher_66 lf_X12_369 vmi_59 ?_
        refine x_iconst (v := 1) dX12_watcher_69 (by decide) ?_
        refine x_isub dX12_watcher_70 ?_
        exact x_ireturn dX12_watcher_71 rfl rfl (fin_t (m := mm ad) hq ⟨h10, h20, h30⟩ (add_sub1 _).symm)
      · refine x_iconst (v := -1) dX12_watcher_33 (by decide) ?_
        exact x_ireturn dX12_watcher_34 rfl rfl (fin_f (m := mm ad) hq (fun z => by first | exact z.1 h10 | exact h20 z.2.1 | exact h30 z.2.2))
theorem c_X12_want {a b : Int32} (hi : adOK ad) (h0 : seti σ 0 0 = σ0) (hc : Cnt σ0) (hq : Q (some (.int (aWant σ0 a b))) (mm ad (nWant σ0 a b))) : CT G (d + 1) (0, 0) MX12_want [.ref (ad 99), .int a, .int b] (mm ad σ) Q := by
  obtain ⟨hl1, hl2⟩ := hc.b 60 (b := 8) (by decide)
  refine CT.of rfl (Nat.le_of_ble_eq_true rfl) ?_
  refine x_aload_n dX12_want_0 rfl rfl ?_
  refine x_iconst (v := 0) dX12_want_1 (by decide) ?_
  refine xm_puti dX12_want_2 lp_X12_138 vmq_0 vmn_0 vmf_0 ?_
  rw [h0]
  refine x_aload_n dX12_want_5 rfl rfl ?_
  refine xm_geti dX12_want_6 lf_X12_372 vmi_60 ?_
  refine x_bipush (v := 8) dX12_want_9 (by decide) ?_
  refine x_icmp_eq (tgt := 34) dX12_want_11 (by decide) (fun h11 => ?_) (fun h11 => ?_)
  · refine x_iconst (v := -1) dX12_want_34 (by decide) ?_
    exact x_ireturn dX12_want_35 rfl rfl (fin_f (m := mm ad) hq (fun z => by first | exact z.1 h11 | exact h21 z.2.1 | exact h31 z.2.2))
  · refine x_iload_n dX12_want_14 rfl rfl ?_
    refine x_iconst (v := 0) dX12_want_15 (by decide) ?_
    refine x_bipush (v := 7) dX12_want_16 (by decide) ?_
    refine x_cS3 dX12_want_18 ls_X12_145 rfl  (c_X12_isIn ?_)
    refine x_if_eq_b (tgt := 34) dX12_want_21 (by decide) (fun h21 => ?_) (fun h21 => ?_)
    · refine x_iconst (v := -1) dX12_want_34 (by decide) ?_
      exact x_ireturn dX12_want_35 rfl rfl (fin_f (m := mm ad) hq (fun z => by first | exact z.1 h11 | exact h21 z.2.1 | exact h31 z.2.2))
    · refine x_iload_n dX12_want_24 rfl rfl ?_
      refine x_iconst (v := 0) dX12_want_25 (by decide) ?_
      refine x_bipush (v := 23) dX12_want_26 (by decide) ?_
      refine x_cS3 dX12_want_28 ls_X12_145 rfl  (c_X12_isIn ?_)
      refine x_if_ne_b (tgt := 36) dX12_want_31 (by decide) (fun h31 => ?_) (fun h31 => ?_)
      · have hin := in_cnt hl1 hl2 (v := 8) rfl h11 (by decide)
        refine x_aload_n dX12_want_36 rfl rfl ?_
        refine xm_geta dX12_want_37 lf_X12_117 vma_55 ?_
        refine x_aload_n dX12_want_40 rfl rfl ?_
        refine xm_geti dX12_want_41 lf_X12_372 vmi_60 ?_
        refine x_iload_n dX12_want_44 rfl rfl ?_
        refine xm_iast 55 dX12_want_45 mf_55 hi hin rfl ?_
        refine x_aload_n dX12_want_46 rfl rfl ?_
        refine xm_geta dX12_want_47 lf_X12_120 vma_56 ?_
        refine x_aload_n dX12_want_50 rfl rfl ?_
        refine xm_geti dX12_want_51 lf_X12_372 vmi_60 ?_
        refine x_iload_n dX12_want_54 rfl rfl ?_
        refine xm_iast 56 dX12_want_55 mf_56 hi hin rfl ?_
        refine x_aload_n dX12_want_56 rfl rfl ?_
        refine x_dup dX12_want_57 rfl ?_
        refine xm_geti dX12_want_58 lf_X12_372 vmi_60 ?_
        refine x_iconst (v := 1) dX12_want_61 (by decide) ?_
        refine x_iadd dX12_want_62 ?_
        refine xm_puti dX12_want_63 lp_X12_372 vmq_60 vmn_60 vmf_60 ?_
        refine x_aload_n dX12_want_66 rfl rfl ?_
        refine xm_geti dX12_want_67 lf_X12_372 vmi_60 ?_
        refine x_iconst (v := 1) dX12_want_70 (by decide) ?_
        refine x_isub dX12_want_71 ?_
        exact x_ireturn dX12_want_72 rfl rfl (fin_t (m := mm ad) hq ⟨h11, h21, h31⟩ (add_sub1 _).symm)
      · refine x_iconst (v := -1) dX12_want_34 (by decide) ?_
        exact x_ireturn dX12_want_35 rfl rfl (fin_f (m := mm ad) hq (fun z => by first | exact z.1 h11 | exact h21 z.2.1 | exact h31 z.2.2))
theorem c_X12_question {a b : Int32} (hi : adOK ad) (h0 : seti σ 0 0 = σ0) (hc : Cnt σ0) (hq : Q (some (.int (aQuest σ0 a b))) (mm ad (nQuest σ0 a b))) : CT G (d + 1) (0, 0) MX12_question [.ref (ad 99), .int a, .int b] (mm ad σ) Q := by
  obtain ⟨hl1, hl2⟩ := hc.b 65 (b := 8) (by decide)
  refine CT.of rfl (Nat.le_of_ble_eq_true rfl) ?_
  refine x_aload_n dX12_question_0 rfl rfl ?_
  refine x_iconst (v := 0) dX12_question_1 (by decide) ?_
  refine xm_puti dX12_question_2 lp_X12_138 vmq_0 vmn_0 vmf_0 ?_
  rw [h0]
  refine x_aload_n dX12_question_5 rfl rfl ?_
  refine xm_geti dX12_question_6 lf_X12_393 vmi_65 ?_
  refine x_bipush (v := 8) dX12_question_9 (by decide) ?_
  refine x_icmp_eq (tgt := 35) dX12_question_11 (by decide) (fun h11 => ?_) (fun h11 => ?_)
  · refine x_iconst (v := -1) dX12_question_35 (by decide) ?_
    exact x_ireturn dX12_question_36 rfl rfl (fin_f (m := mm ad) hq (fun z => by first | exact z.1 h11 | exact h21 z.2.1 | exact h32 z.2.2))
  · refine x_iload_n dX12_question_14 rfl rfl ?_
    refine x_iconst (v := 1) dX12_question_15 (by decide) ?_
    refine x_bipush (v := 50) dX12_question_16 (by decide) ?_
    refine x_cS3 dX12_question_18 ls_X12_145 rfl  (c_X12_isIn ?_)
    refine x_if_eq_b (tgt := 35) dX12_question_21 (by decide) (fun h21 => ?_) (fun h21 => ?_)
    · refine x_iconst (v := -1) dX12_question_35 (by decide) ?_
      exact x_ireturn dX12_question_36 rfl rfl (fin_f (m := mm ad) hq (fun z => by first | exact z.1 h11 | exact h21 z.2.1 | exact h32 z.2.2))
    · refine x_iload_n dX12_question_24 rfl rfl ?_
      refine x_iconst (v := 0) dX12_question_25 (by decide) ?_
      refine x_sipush (v := 1023) dX12_question_26 (by decide) ?_
      refine x_cS3 dX12_question_29 ls_X12_145 rfl  (c_X12_isIn ?_)
      refine x_if_ne_b (tgt := 37) dX12_question_32 (by decide) (fun h32 => ?_) (fun h32 => ?_)
      · have hin := in_cnt hl1 hl2 (v := 8) rfl h11 (by decide)
        refine x_aload_n dX12_question_37 rfl rfl ?_
        refine xm_geta dX12_question_38 lf_X12_129 vma_62 ?_
        refine x_aload_n dX12_question_41 rfl rfl ?_
        refine xm_geti dX12_question_42 lf_X12_393 vmi_65 ?_
        refine x_iload_n dX12_question_45 rfl rfl ?_
        refine xm_iast 62 dX12_question_46 mf_62 hi hin rfl ?_
        refine x_aload_n dX12_question_47 rfl rfl ?_
        refine xm_geta dX12_question_48 lf_X12_132 vma_63 ?_
        refine x_aload_n dX12_question_51 rfl rfl ?_
        refine xm_geti dX12_question_52 lf_X12_393 vmi_65 ?_
        refine x_iload_n dX12_question_55 rfl rfl ?_
        refine xm_iast 63 dX12_question_56 mf_63 hi hin rfl ?_
        refine x_aload_n dX12_question_57 rfl rfl ?_
        refine x_dup dX12_question_58 rfl ?_
        refine xm_geti dX12_question_59 lf_X12_393 vmi_65 ?_
        refine x_iconst (v := 1) dX12_question_62 (by decide) ?_
        refine x_iadd dX12_question_63 ?_
        refine xm_puti dX12_question_64 lp_X12_393 vmq_65 vmn_65 vmf_65 ?_
        refine x_aload_n dX12_question_67 rfl rfl ?_
        refine xm_geti dX12_question_68 lf_X12_393 vmi_65 ?_
        refine x_iconst (v := 1) dX12_question_71 (by decide) ?_
        refine x_isub dX12_question_72 ?_
        exact x_ireturn dX12_question_73 rfl rfl (fin_t (m := mm ad) hq ⟨h11, h21, h32⟩ (add_sub1 _).symm)
      · refine x_iconst (v := -1) dX12_question_35 (by decide) ?_
        exact x_ireturn dX12_question_36 rfl rfl (fin_f (m := mm ad) hq (fun z => by first | exact z.1 h11 | exact h21 z.2.1 | exact h32 z.2.2))
end MDB2
end
section
/-! numbers of the JDK; the model's methods, 3 -/
section MDC
variable {G : Gam} {d : Nat} {k : Nat × Nat} {ad : Nat → Nat} {σ σ0 : MS} {M : Mem} {Q : Option Value → Mem → Prop}
theorem c_J9_abs_0f7a4 {x : Int32} (hq : Q (some (.int (iabs x))) M) : CT G d (0, 0) MJ9_abs_0f7a4 [.int x] M Q := by
  refine CT.ofF (by decide +kernel) (Nat.le_of_ble_eq_true rfl) ?_
  refine x_iload_n dJ9_abs_0f7a4_0 rfl rfl ?_
  refine x_if_ge (tgt := 9) dJ9_abs_0f7a4_1 (by decide) (fun h1 => ?_) (fun h1 => ?_)
  · refine x_iload_n dJ9_abs_0f7a4_9 rfl rfl ?_
    exact x_ireturn dJ9_abs_0f7a4_10 rfl rfl (fin hq (by first | exact if_pos h1 | exact if_neg h1))
  · refine x_iload_n dJ9_abs_0f7a4_4 rfl rfl ?_
    refine x_ineg dJ9_abs_0f7a4_5 ?_
    refine x_goto (tgt := 10) dJ9_abs_0f7a4_6 (by decide) ?_
    exact x_ireturn dJ9_abs_0f7a4_10 rfl rfl (fin hq (by first | exact if_pos h1 | exact if_neg h1))
theorem c_J9_abs_067f4 {x : Int64} (hq : Q (some (.long (labs x))) M) : CT G d (0, 0) MJ9_abs_067f4 [.long x] M Q := by
  unfold labs at hq
  refine CT.ofF (by decide +kernel) (Nat.le_of_ble_eq_true rfl) ?_
  refine x_lload_n dJ9_abs_067f4_0 rfl rfl ?_
  refine x_lconst (v := 0) dJ9_abs_067f4_1 (by decide) ?_
  refine x_lcmp dJ9_abs_067f4_2 ?_
  refine x_if_ge (tgt := 11) dJ9_abs_067f4_3 (by decide) (fun h3 => ?_) (fun h3 => ?_)
  · refine x_lload_n dJ9_abs_067f4_11 rfl rfl ?_
    exact x_lreturn dJ9_abs_067f4_12 rfl (by first | (rw [if_pos h3] at hq; exact hq) | (rw [if_neg h3] at hq; exact hq))
  · refine x_lload_n dJ9_abs_067f4_6 rfl rfl ?_
    refine x_lneg dJ9_abs_067f4_7 ?_
    refine x_goto (tgt := 12) dJ9_abs_067f4_8 (by decide) ?_
    exact x_lreturn dJ9_abs_067f4_12 rfl (by first | (rw [if_pos h3] at hq; exact hq) | (rw [if_neg h3] at hq; exact hq))
theorem c_J9_max_7cf53 {x y : Int32} (hq : Q (some (.int (if x < y then y else x))) M) : CT G d (0, 0) MJ9_max_7cf53 [.int x, .int y] M Q := by
  refine CT.ofF (by decide +kernel) (Nat.le_of_ble_eq_true rfl) ?_
  refine x_iload_n dJ9_max_7cf53_0 rfl rfl ?_
  refine x_iload_n dJ9_max_7cf53_1 rfl rfl ?_
  refine x_icmp_lt (tgt := 9) dJ9_max_7cf53_2 (by decide) (fun h2 => ?_) (fun h2 => ?_)
  · refine x_iload_n dJ9_max_7cf53_9 rfl rfl ?_
    exact x_ireturn dJ9_max_7cf53_10 rfl rfl (fin hq (by first | exact if_pos h2 | exact if_neg h2))
  · refine x_iload_n dJ9_max_7cf53_5 rfl rfl ?_
    refine x_goto (tgt := 10) dJ9_max_7cf53_6 (by decide) ?_
    exact x_ireturn dJ9_max_7cf53_10 rfl rfl (fin hq (by first | exact if_pos h2 | exact if_neg h2))
theorem c_J9_min_7cf53 {x y : Int32} (hq : Q (some (.int (if y < x then y else x))) M) : CT G d (0, 0) MJ9_min_7cf53 [.int x, .int y] M Q := by
  refine CT.ofF (by decide +kernel) (Nat.le_of_ble_eq_true rfl) ?_
  refine x_iload_n dJ9_min_7cf53_0 rfl rfl ?_
  refine x_iload_n dJ9_min_7cf53_1 rfl rfl ?_
  refine x_icmp_gt (tgt := 9) dJ9_min_7cf53_2 (by decide) (fun h2 => ?_) (fun h2 => ?_)
  · refine x_iload_n dJ9_min_7cf53_9 rfl rfl ?_
    exact x_ireturn dJ9_min_7cf53_10 rfl rfl (fin hq (by first | exact if_pos h2 | exact if_neg h2))
  · refine x_iload_n dJ9_min_7cf53_5 rfl rfl ?_
    refine x_goto (tgt := 10) dJ9_min_7cf53_6 (by decide) ?_
    exact x_ireturn dJ9_min_7cf53_10 rfl rfl (fin hq (by first | exact if_pos h2 | exact if_neg h2))
theorem c_J9_max_f86c9 {x y : Int64} (hq : Q (some (.long (if lg_cmp x y < 0 then y else x))) M) : CT G d (0, 0) MJ9_max_f86c9 [.long x, .long y] M Q := by
  refine CT.ofF (by decide +kernel) (Nat.le_of_ble_eq_true rfl) ?_
  refine x_lload_n dJ9_max_f86c9_0 rfl rfl ?_
  refine x_lload_n dJ9_max_f86c9_1 rfl rfl ?_
  refine x_lcmp dJ9_max_f86c9_2 ?_
  refine x_if_lt (tgt := 10) dJ9_max_f86c9_3 (by decide) (fun h3 => ?_) (fun h3 => ?_)
  · refine x_lload_n dJ9_max_f86c9_10 rfl rfl ?_
    exact x_lreturn dJ9_max_f86c9_11 rfl (by first | (rw [if_pos h3] at hq; exact hq) | (rw [if_neg h3] at hq; exact hq))
  · refine x_lload_n dJ9_max_f86c9_6 rfl rfl ?_
    refine x_goto (tgt := 11) dJ9_max_f86c9_7 (by decide) ?_
    exact x_lreturn dJ9_max_f86c9_11 rfl (by first | (rw [if_pos h3] at hq; exact hq) | (rw [if_neg h3] at hq; exact hq))
theorem c_J9_min_f86c9 {x y : Int64} (hq : Q (some (.long (if 0 < lg_cmp x y then y else x))) M) : CT G d (0, 0) MJ9_min_f86c9 [.long x, .long y] M Q := by
  refine CT.ofF (by decide +kernel) (Nat.le_of_ble_eq_true rfl) ?_
  refine x_lload_n dJ9_min_f86c9_0 rfl rfl ?_
  refine x_lload_n dJ9_min_f86c9_1 rfl rfl ?_
  refine x_lcmp dJ9_min_f86c9_2 ?_
  refine x_if_gt (tgt := 10) dJ9_min_f86c9_3 (by decide) (fun h3 => ?_) (fun h3 => ?_)
  · refine x_lload_n dJ9_min_f86c9_10 rfl rfl ?_
    exact x_lreturn dJ9_min_f86c9_11 rfl (by first | (rw [if_pos h3] at hq; exact hq) | (rw [if_neg h3] at hq; exact hq))
  · refine x_lload_n dJ9_min_f86c9_6 rfl rfl ?_
    refine x_goto (tgt := 11) dJ9_min_f86c9_7 (by decide) ?_
    exact x_lreturn dJ9_min_f86c9_11 rfl (by first | (rw [if_pos h3] at hq; exact hq) | (rw [if_neg h3] at hq; exact hq))
theorem c_J6_bitCount_0f7a4 {x : Int32} (hq : Q (some (.int (bitc x))) M) : CT G d (0, 0) MJ6_bitCount_0f7a4 [.int x] M Q := by
  refine CT.ofF (by decide +kernel) (Nat.le_of_ble_eq_true rfl) ?_
  refine x_iload_n dJ6_bitCount_0f7a4_0 rfl rfl ?_
  refine x_iload_n dJ6_bitCount_0f7a4_1 rfl rfl ?_
  refine x_iconst (v := 1) dJ6_bitCount_0f7a4_2 (by decide) ?_
  refine x_iushr dJ6_bitCount_0f7a4_3 ?_
  refine x_ldcw dJ6_bitCount_0f7a4_4 tb1056 ?_
  refine x_iand dJ6_bitCount_0f7a4_7 ?_
  refine x_isub dJ6_bitCount_0f7a4_8 ?_
  refine x_istore_n dJ6_bitCount_0f7a4_9 rfl (by decide) ?_
  refine x_loc [(0, .int (bc1 x))] ⟨rfl, trivial⟩ ?_
  refine x_iload_n dJ6_bitCount_0f7a4_10 rfl rfl ?_
  refine x_ldcw dJ6_bitCount_0f7a4_11 tb1057 ?_
  refine x_iand dJ6_bitCount_0f7a4_14 ?_
  refine x_iload_n dJ6_bitCount_0f7a4_15 rfl rfl ?_
  refine x_iconst (v := 2) dJ6_bitCount_0f7a4_16 (by decide) ?_
  refine x_iushr dJ6_bitCount_0f7a4_17 ?_
  refine x_ldcw dJ6_bitCount_0f7a4_18 tb1057 ?_
  refine x_iand dJ6_bitCount_0f7a4_21 ?_
  refine x_iadd dJ6_bitCount_0f7a4_22 ?_
  refine x_istore_n dJ6_bitCount_0f7a4_23 rfl (by decide) ?_
  refine x_loc [(0, .int (bc2 (bc1 x)))] ⟨rfl, trivial⟩ ?_
  refine x_iload_n dJ6_bitCount_0f7a4_24 rfl rfl ?_
  refine x_iload_n dJ6_bitCount_0f7a4_25 rfl rfl ?_
  refine x_iconst (v := 4) dJ6_bitCount_0f7a4_26 (by decide) ?_
  refine x_iushr dJ6_bitCount_0f7a4_27 ?_
  refine x_iadd dJ6_bitCount_0f7a4_28 ?_
  refine x_ldcw dJ6_bitCount_0f7a4_29 tb1058 ?_
  refine x_iand dJ6_bitCount_0f7a4_32 ?_
  refine x_istore_n dJ6_bitCount_0f7a4_33 rfl (by decide) ?_
  refine x_loc [(0, .int (bc3 (bc2 (bc1 x))))] ⟨rfl, trivial⟩ ?_
  refine x_iload_n dJ6_bitCount_0f7a4_34 rfl rfl ?_
  refine x_iload_n dJ6_bitCount_0f7a4_35 rfl rfl ?_
  refine x_bipush (v := 8) dJ6_bitCount_0f7a4_36 (by decide) ?_
  refine x_iushr dJ6_bitCount_0f7a4_38 ?_
  refine x_iadd dJ6_bitCount_0f7a4_39 ?_
  refine x_istore_n dJ6_bitCount_0f7a4_40 rfl (by decide) ?_
  refine x_loc [(0, .int (bc4 (bc3 (bc2 (bc1 x)))))] ⟨rfl, trivial⟩ ?_
  refine x_iload_n dJ6_bitCount_0f7a4_41 rfl rfl ?_
  refine x_iload_n dJ6_bitCount_0f7a4_42 rfl rfl ?_
  refine x_bipush (v := 16) dJ6_bitCount_0f7a4_43 (by decide) ?_
  refine x_iushr dJ6_bitCount_0f7a4_45 ?_
  refine x_iadd dJ6_bitCount_0f7a4_46 ?_
  refine x_istore_n dJ6_bitCount_0f7a4_47 rfl (by decide) ?_
  refine x_iload_n dJ6_bitCount_0f7a4_48 rfl rfl ?_
  refine x_bipush (v := 63) dJ6_bitCount_0f7a4_49 (by decide) ?_
  refine x_iand dJ6_bitCount_0f7a4_51 ?_
  exact x_ireturn dJ6_bitCount_0f7a4_52 rfl rfl (hq)
theorem c_X12_habit {reader q : Int32} (hi : adOK ad) (h0 : seti σ 0 0 = σ0) (hc : Cnt σ0) (hq : Q (some (.int (aHabit σ0 reader q))) (mm ad σ0)) : CT G (d + 2) (0, 0) MX12_habit [.ref (ad 99), .int reader, .int q] (mm ad σ) Q := by
  obtain ⟨hl1, hl2⟩ := hc.b 16 (b := 200) (by decide)
  refine CT.of rfl (Nat.le_of_ble_eq_true rfl) ?_
  refine x_aload_n dX12_habit_0 rfl rfl ?_
  refine x_iconst (v := 0) dX12_habit_1 (by decide) ?_
  refine xm_puti dX12_habit_2 lp_X12_138 vmq_0 vmn_0 vmf_0 ?_
  rw [h0]
  refine x_iload_n dX12_habit_5 rfl rfl ?_
  refine x_cS1 dX12_habit_6 ls_X12_338 rfl  (c_X12_isReader ?_)
  refine x_if_eq_b (tgt := 20) dX12_habit_9 (by decide) (fun h9 => ?_) (fun h9 => ?_)
  · refine x_ldcw dX12_habit_20 tb1622 ?_
    exact x_ireturn dX12_habit_23 rfl rfl (fan_f hq (fun z => by first | exact h9 z.1 | exact h17 z.2))
  · refine x_aload_n dX12_habit_12 rfl rfl ?_
    refine x_iload_n dX12_habit_13 rfl rfl ?_
    refine x_cV1 dX12_habit_14 lv_X12_159 mm_obj rfl rfl rfl  (c_X12_isKnown ?_)
    refine x_if_ne_b (tgt := 24) dX12_habit_17 (by decide) (fun h17 => ?_) (fun h17 => ?_)
    · have hq := fan_t hq ⟨h9, h17⟩
      refine x_iconst (v := 0) dX12_habit_24 (by decide) ?_
      refine x_istore_n dX12_habit_25 rfl (by decide) ?_
      refine x_iconst (v := 0) dX12_habit_26 (by decide) ?_
      refine x_istore dX12_habit_27 (by decide) ?_
      refine x_iconst (v := 0) dX12_habit_29 (by decide) ?_
      refine x_istore dX12_habit_30 (by decide) ?_
      refine x_loc [(0, .ref (ad 99)), (1, .int reader), (2, .int q), (3, .int (spHab σ0 reader q 0).1), (4, .int (spHab σ0 reader q 0).2), (5, .int (nI 0))] ⟨rfl, rfl, rfl, rfl, rfl, rfl, trivial⟩ ?_
      refine loop_up (P := fun i => XJ G (d + 2) (0, 0) MX12_habit (mm ad σ0) [(0, .ref (ad 99)), (1, .int reader), (2, .int q), (3, .int (spHab σ0 reader q i).1), (4, .int (spHab σ0 reader q i).2), (5, .int (nI i))] [] 32 Q) (n := cn σ0 16) ?_ ?_ 0 (Nat.zero_le _)
      · refine x_iload dX12_habit_32 rfl ?_
        refine x_aload_n dX12_habit_34 rfl rfl ?_
        refine xm_geti dX12_habit_35 lf_X12_152 vmi_16 ?_
        refine x_icmp_ge (tgt := 120) dX12_habit_38 (by decide) (fun _ => ?_) (fun z => absurd (loopT hl1) z)
        refine x_iload dX12_habit_120 rfl ?_
        refine x_if_ne (tgt := 129) dX12_habit_122 (by decide) (fun h122 => ?_) (fun h122 => ?_)
        · refine x_sipush (v := 1000) dX12_habit_129 (by decide) ?_
          refine x_iload_n dX12_habit_132 rfl rfl ?_
          refine x_imul dX12_habit_133 ?_
          refine x_iload dX12_habit_134 rfl ?_
          refine x_idiv dX12_habit_136 h122 ?_
          exact x_ireturn dX12_habit_137 rfl rfl (by first | (rw [if_pos h122] at hq; exact hq) | (rw [if_neg h122] at hq; exact hq))
        · refine x_iconst (v := 0) dX12_habit_125 (by decide) ?_
          refine x_goto (tgt := 137) dX12_habit_126 (by decide) ?_
          exact x_ireturn dX12_habit_137 rfl rfl (by first | (rw [if_pos h122] at hq; exact hq) | (rw [if_neg h122] at hq; exact hq))
      · intro i hlt ih
        refine x_iload dX12_habit_32 rfl ?_
        refine x_aload_n dX12_habit_34 rfl rfl ?_
        refine xm_geti dX12_habit_35 lf_X12_152 vmi_16 ?_
        refine x_icmp_ge (tgt := 120) dX12_habit_38 (by decide) (fun z => absurd z (loopF hl1 hlt (by omega))) (fun _ => ?_)
        refine x_aload_n dX12_habit_41 rfl rfl ?_
        refine x_iload_n dX12_habit_42 rfl rfl ?_
        refine x_iload dX12_habit_43 rfl ?_
        refine x_iload_n dX12_habit_45 rfl rfl ?_
        refine x_cV3 dX12_habit_46 lv_X12_341 mm_obj rfl rfl rfl  (c_X12_markOf hi hc ?_)
        refine x_istore dX12_habit_49 (by decide) ?_
        refine x_iconst (v := 0) dX12_habit_51 (by decide) ?_
        refine x_istore dX12_habit_52 (by decide) ?_
        refine x_loc [(0, .ref (ad 99)), (1, .int reader), (2, .int q), (3, .int (spHab1 σ0 reader q i (spHab σ0 reader q i) 0).1), (4, .int (spHab1 σ0 reader q i (spHab σ0 reader q i) 0).2), (5, .int (nI i)), (6, .int (mk σ0 q reader i)), (7, .int (nI 0))] ⟨rfl, rfl, rfl, rfl, rfl, rfl, rfl, rfl, trivial⟩ ?_
        refine loop_up (P := fun r => XJ G (d + 2) (0, 0) MX12_habit (mm ad σ0) [(0, .ref (ad 99)), (1, .int reader), (2, .int q), (3, .int (spHab1 σ0 reader q i (spHab σ0 reader q i) r).1), (4, .int (spHab1 σ0 reader q i (spHab σ0 reader q i) r).2), (5, .int (nI i)), (6, .int (mk σ0 q reader i)), (7, .int (nI r))] [] 54 Q) (n := 6) ?_ ?_ 0 (Nat.zero_le _)
        · refine x_iload dX12_habit_54 rfl ?_
          refine x_bipush (v := 6) dX12_habit_56 (by decide) ?_
          refine x_icmp_ge (tgt := 114) dX12_habit_58 (by decide) (fun _ => ?_) (fun z => absurd (loopT (show (6 : Int32) = nI 6 from rfl)) z)
          refine x_iinc (c := 1) dX12_habit_114 rfl (by decide) ?_
          refine x_goto (tgt := 32) dX12_habit_117 (by decide) ?_
          refine x_loc _ (?_ : lle _ _) ih
          exact ⟨rfl, rfl, rfl, rfl, rfl, congrArg some (congrArg Value.int (by rw [← nI_1])), trivial⟩
        · intro r hltr ihr
          have hstep : spHab1 σ0 reader q i (spHab σ0 reader q i) (r + 1) = if nI r ≠ reader ∧ mk σ0 q (nI r) i ≠ -1 ∧ mk σ0 q reader i ≠ -1 then ((spHab1 σ0 reader q i (spHab σ0 reader q i) r).1 + (mk σ0 q reader i - mk σ0 q (nI r) i), (spHab1 σ0 reader q i (spHab σ0 reader q i) r).2 + 1) else spHab1 σ0 reader q i (spHab σ0 reader q i) r := rfl
          refine x_iload dX12_habit_54 rfl ?_
          refine x_bipush (v := 6) dX12_habit_56 (by decide) ?_
          refine x_icmp_ge (tgt := 114) dX12_habit_58 (by decide) (fun z => absurd z (loopF (show (6 : Int32) = nI 6 from rfl) hltr (by omega))) (fun _ => ?_)
          refine x_iload dX12_habit_61 rfl ?_
          refine x_iconst (v := -1) dX12_habit_63 (by decide) ?_
          refine x_icmp_eq (tgt := 114) dX12_habit_64 (by decide) (fun h64 => ?_) (fun h64 => ?_)
          · have hz : ∀ n, spHab1 σ0 reader q i (spHab σ0 reader q i) n = spHab σ0 reader q i := by
              intro n
              induction n with
              | zero => rfl
              | succ n ihn =>
                have e : spHab1 σ0 reader q i (spHab σ0 reader q i) (n + 1) = if nI n ≠ reader ∧ mk σ0 q (nI n) i ≠ -1 ∧ mk σ0 q reader i ≠ -1 then ((spHab1 σ0 reader q i (spHab σ0 reader q i) n).1 + (mk σ0 q reader i - mk σ0 q (nI n) i), (spHab1 σ0 reader q i (spHab σ0 reader q i) n).2 + 1) else spHab1 σ0 reader q i (spHab σ0 reader q i) n := rfl
                rw [e, if_neg (fun z => z.2.2 h64), ihn]
            have hz2 : spHab σ0 reader q (i + 1) = spHab1 σ0 reader q i (spHab σ0 reader q i) r := by rw [hz r]; exact hz 6
            refine x_iinc (c := 1) dX12_habit_114 rfl (by decide) ?_
            refine x_goto (tgt := 32) dX12_habit_117 (by decide) ?_
            refine x_loc _ (?_ : lle _ _) ih
            rw [hz2]
            exact ⟨rfl, rfl, rfl, rfl, rfl, congrArg some (congrArg Value.int (by rw [← nI_1])), trivial⟩
          · refine x_iload dX12_habit_67 rfl ?_
            refine x_iload_n dX12_habit_69 rfl rfl ?_
            refine x_icmp_ne (tgt := 77) dX12_habit_70 (by decide) (fun h70 => ?_) (fun h70 => ?_)
            · refine x_aload_n dX12_habit_77 rfl rfl ?_
              refine x_iload dX12_habit_78 rfl ?_
              refine x_iload dX12_habit_80 rfl ?_
              refine x_iload_n dX12_habit_82 rfl rfl ?_
              refine x_cV3 dX12_habit_83 lv_X12_341 mm_obj rfl rfl rfl  (c_X12_markOf hi hc ?_)
              refine x_istore dX12_habit_86 (by decide) ?_
              refine x_iload dX12_habit_88 rfl ?_
              refine x_iconst (v := -1) dX12_habit_90 (by decide) ?_
              refine x_icmp_ne (tgt := 97) dX12_habit_91 (by decide) (fun h91 => ?_) (fun h91 => ?_)
              · refine x_iload_n dX12_habit_97 rfl rfl ?_
                refine x_iload dX12_habit_98 rfl ?_
                refine x_iload dX12_habit_100 rfl ?_
                refine x_isub dX12_habit_102 ?_
                refine x_iadd dX12_habit_103 ?_
                refine x_istore_n dX12_habit_104 rfl (by decide) ?_
                refine x_iinc (c := 1) dX12_habit_105 rfl (by decide) ?_
                refine x_iinc (c := 1) dX12_habit_108 rfl (by decide) ?_
                refine x_goto (tgt := 54) dX12_habit_111 (by decide) ?_
                refine x_loc _ (?_ : lle _ _) ihr
                refine ⟨rfl, rfl, rfl, ?_, ?_, rfl, rfl, ?_, trivial⟩
                · show some (Value.int _) = some (Value.int (spHab1 σ0 reader q i (spHab σ0 reader q i) (r + 1)).1)
                  clear ih ihr hq; grind [mk]
                · show some (Value.int _) = some (Value.int (spHab1 σ0 reader q i (spHab σ0 reader q i) (r + 1)).2)
                  clear ih ihr hq; grind [mk]
                · show some (Value.int _) = some (Value.int (nI (r + 1)))
                  rw [← nI_1]
              · refine x_goto (tgt := 108) dX12_habit_94 (by decide) ?_
                refine x_iinc (c := 1) dX12_habit_108 rfl (by decide) ?_
                refine x_goto (tgt := 54) dX12_habit_111 (by decide) ?_
                refine x_loc _ (?_ : lle _ _) ihr
                refine ⟨rfl, rfl, rfl, ?_, ?_, rfl, rfl, ?_, trivial⟩
                · show some (Value.int _) = some (Value.int (spHab1 σ0 reader q i (spHab σ0 reader q i) (r + 1)).1)
                  clear ih ihr hq; grind [mk]
                · show some (Value.int _) = some (Value.int (spHab1 σ0 reader q i (spHab σ0 reader q i) (r + 1)).2)
                  clear ih ihr hq; grind [mk]
                · show some (Value.int _) = some (Value.int (nI (r + 1)))
                  rw [← nI_1]
            · refine x_iconst (v := -1) dX12_habit_73 (by decide) ?_
              refine x_goto (tgt := 86) dX12_habit_74 (by decide) ?_
              refine x_istore dX12_habit_86 (by decide) ?_
              refine x_iload dX12_habit_88 rfl ?_
              refine x_iconst (v := -1) dX12_habit_90 (by decide) ?_
              refine x_icmp_ne (tgt := 97) dX12_habit_91 (by decide) (fun h91 => ?_) (fun h91 => ?_)
              · refine x_iload_n dX12_habit_97 rfl rfl ?_
                refine x_iload dX12_habit_98 rfl ?_
                refine x_iload dX12_habit_100 rfl ?_
                refine x_isub dX12_habit_102 ?_
                refine x_iadd dX12_habit_103 ?_
                refine x_istore_n dX12_habit_104 rfl (by decide) ?_
                refine x_iinc (c := 1) dX12_habit_105 rfl (by decide) ?_
                refine x_iinc (c := 1) dX12_habit_108 rfl (by decide) ?_
                refine x_goto (tgt := 54) dX12_habit_111 (by decide) ?_
                refine x_loc _ (?_ : lle _ _) ihr
                refine ⟨rfl, rfl, rfl, ?_, ?_, rfl, rfl, ?_, trivial⟩
                · show some (Value.int _) = some (Value.int (spHab1 σ0 reader q i (spHab σ0 reader q i) (r + 1)).1)
                  clear ih ihr hq; grind [mk]
                · show some (Value.int _) = some (Value.int (spHab1 σ0 reader q i (spHab σ0 reader q i) (r + 1)).2)
                  clear ih ihr hq; grind [mk]
                · show some (Value.int _) = some (Value.int (nI (r + 1)))
                  rw [← nI_1]
              · refine x_goto (tgt := 108) dX12_habit_94 (by decide) ?_
                refine x_iinc (c := 1) dX12_habit_108 rfl (by decide) ?_
                refine x_goto (tgt := 54) dX12_habit_111 (by decide) ?_
                refine x_loc _ (?_ : lle _ _) ihr
                refine ⟨rfl, rfl, rfl, ?_, ?_, rfl, rfl, ?_, trivial⟩
                · show some (Value.int _) = some (Value.int (spHab1 σ0 reader q i (spHab σ0 reader q i) (r + 1)).1)
                  clear ih ihr hq; grind [mk]
                · show some (Value.int _) = some (Value.int (spHab1 σ0 reader q i (spHab σ0 reader q i) (r + 1)).2)
                  clear ih ihr hq; grind [mk]
                · show some (Value.int _) = some (Value.int (nI (r + 1)))
                  rw [← nI_1]
    · refine x_ldcw dX12_habit_20 tb1622 ?_
      exact x_ireturn dX12_habit_23 rfl rfl (fan_f hq (fun z => by first | exact h9 z.1 | exact h17 z.2))
theorem sh_step {n : Nat} (h : n < 4) : nI (24 - 8 * n) + (-8) = (if n = 3 then -8 else nI (24 - 8 * (n + 1))) := by
  have : n = 0 ∨ n = 1 ∨ n = 2 ∨ n = 3 := by omega
  rcases this with rfl | rfl | rfl | rfl <;> decide
theorem c_X12_bytesIn {v : Int32} (hq : Q (some (.int (spBytes v 4))) M) : CT G d (0, 0) MX12_bytesIn [.int v] M Q := by
  refine CT.of rfl (Nat.le_of_ble_eq_true rfl) ?_
  refine x_iconst (v := 0) dX12_bytesIn_0 (by decide) ?_
  refine x_istore_n dX12_bytesIn_1 rfl (by decide) ?_
  refine x_bipush (v := 24) dX12_bytesIn_2 (by decide) ?_
  refine x_istore_n dX12_bytesIn_4 rfl (by decide) ?_
  refine x_loc [(0, .int v), (1, .int (spBytes v 0)), (2, .int (if 0 = 4 then -8 else nI (24 - 8 * 0)))] ⟨rfl, rfl, rfl, trivial⟩ ?_
  refine loop_up (P := fun i => XJ G d (0, 0) MX12_bytesIn (M) [(0, .int v), (1, .int (spBytes v i)), (2, .int (if i = 4 then -8 else nI (24 - 8 * i)))] [] 5 Q) (n := 4) ?_ ?_ 0 (Nat.zero_le _)
  · refine x_iload_n dX12_bytesIn_5 rfl rfl ?_
    refine x_if_lt (tgt := 33) dX12_bytesIn_6 (by decide) (fun _ => ?_) (fun z => absurd (by decide) z)
    refine x_iload_n dX12_bytesIn_33 rfl rfl ?_
    exact x_ireturn dX12_bytesIn_34 rfl rfl (hq)
  · intro i hlt ih
    refine x_iload_n dX12_bytesIn_5 rfl rfl ?_
    have hi4 : ¬ (if i = 4 then -8 else nI (24 - 8 * i)) < 0 := by rw [if_neg (by omega)]; exact nI_pos (by omega)
    refine x_if_lt (tgt := 33) dX12_bytesIn_6 (by decide) (fun z => absurd z hi4) (fun _ => ?_)
    refine x_iload_n dX12_bytesIn_9 rfl rfl ?_
    refine x_iload_n dX12_bytesIn_10 rfl rfl ?_
    refine x_iload_n dX12_bytesIn_11 rfl rfl ?_
    refine x_ishr dX12_bytesIn_12 ?_
    refine x_sipush (v := 255) dX12_bytesIn_13 (by decide) ?_
    refine x_iand dX12_bytesIn_16 ?_
    refine x_if_eq (tgt := 24) dX12_bytesIn_17 (by decide) (fun h17 => ?_) (fun h17 => ?_)
    · refine x_iconst (v := 0) dX12_bytesIn_24 (by decide) ?_
      refine x_iadd dX12_bytesIn_25 ?_
      refine x_istore_n dX12_bytesIn_26 rfl (by decide) ?_
      refine x_iinc (c := -8) dX12_bytesIn_27 rfl (by decide) ?_
      refine x_goto (tgt := 5) dX12_bytesIn_30 (by decide) ?_
      refine x_loc _ (?_ : lle _ _) ih
      refine ⟨rfl, ?_, ?_, trivial⟩
      · show some (Value.int _) = some (Value.int (if (v >>> ((nI (24 - 8 * i)) &&& 31)) &&& 255 = 0 then spBytes v i else spBytes v i + 1))
        clear ih hq; grind [Int32.add_zero]
      · show some (Value.int _) = some (Value.int (if i + 1 = 4 then -8 else nI (24 - 8 * (i + 1))))
        rw [if_neg (by omega), sh_step hlt]
        by_cases e : i = 3
        · rw [if_pos e, if_pos (by omega)]
        · rw [if_neg e, if_neg (by omega)]
    · refine x_iconst (v := 1) dX12_bytesIn_20 (by decide) ?_
      refine x_goto (tgt := 25) dX12_bytesIn_21 (by decide) ?_
      refine x_iadd dX12_bytesIn_25 ?_
      refine x_istore_n dX12_bytesIn_26 rfl (by decide) ?_
      refine x_iinc (c := -8) dX12_bytesIn_27 rfl (by decide) ?_
      refine x_goto (tgt := 5) dX12_bytesIn_30 (by decide) ?_
      refine x_loc _ (?_ : lle _ _) ih
      refine ⟨rfl, ?_, ?_, trivial⟩
      · show some (Value.int _) = some (Value.int (if (v >>> ((nI (24 - 8 * i)) &&& 31)) &&& 255 = 0 then spBytes v i else spBytes v i + 1))
        clear ih hq; grind [Int32.add_zero]
      · show some (Value.int _) = some (Value.int (if i + 1 = 4 then -8 else nI (24 - 8 * (i + 1))))
        rw [if_neg (by omega), sh_step hlt]
        by_cases e : i = 3
        · rw [if_pos e, if_pos (by omega)]
        · rw [if_neg e, if_neg (by omega)]
theorem c_X12_end {n : Int32} (h0 : seti σ 0 0 = σ0) (hq : Q (some (.int (aEnd σ0 n))) (mm ad (nEnd σ0 n))) : CT G d (0, 0) MX12_end [.ref (ad 99), .int n] (mm ad σ) Q := by
  refine CT.of rfl (Nat.le_of_ble_eq_true rfl) ?_
  refine x_aload_n dX12_end_0 rfl rfl ?_
  refine x_iconst (v := 0) dX12_end_1 (by decide) ?_
  refine xm_puti dX12_end_2 lp_X12_138 vmq_0 vmn_0 vmf_0 ?_
  rw [h0]
  refine x_iload_n dX12_end_5 rfl rfl ?_
  refine x_if_lt (tgt := 17) dX12_end_6 (by decide) (fun h6 => ?_) (fun h6 => ?_)
  · refine x_iconst (v := 0) dX12_end_17 (by decide) ?_
    exact x_ireturn dX12_end_18 rfl rfl (fbn_f (m := mm ad) hq (fun z => by first | exact absurd h6 (Int32.not_lt.mpr z.1) | exact h14 z.2))
  · refine x_iload_n dX12_end_9 rfl rfl ?_
    refine x_aload_n dX12_end_10 rfl rfl ?_
    refine xm_geti dX12_end_11 lf_X12_178 vmi_24 ?_
    refine x_icmp_le (tgt := 19) dX12_end_14 (by decide) (fun h14 => ?_) (fun h14 => ?_)
    · refine x_aload_n dX12_end_19 rfl rfl ?_
      refine x_iload_n dX12_end_20 rfl rfl ?_
      refine xm_puti dX12_end_21 lp_X12_178 vmq_24 vmn_24 vmf_24 ?_
      refine x_iconst (v := 1) dX12_end_24 (by decide) ?_
      exact x_ireturn dX12_end_25 rfl rfl (fbn_t (m := mm ad) hq ⟨Int32.not_lt.mp h6, h14⟩)
    · refine x_iconst (v := 0) dX12_end_17 (by decide) ?_
      exact x_ireturn dX12_end_18 rfl rfl (fbn_f (m := mm ad) hq (fun z => by first | exact absurd h6 (Int32.not_lt.mpr z.1) | exact h14 z.2))
theorem c_X12_stratum {p : Int32} {j : Nat} (hi : adOK ad) (hin : vp_in p 24) (hj : p.toNatClampNeg = j) (hq : Q (some (.int (strat (σ.2 3 j)))) (mm ad σ)) : CT G d (0, 0) MX12_stratum [.ref (ad 99), .int p] (mm ad σ) Q := by
  refine CT.of rfl (Nat.le_of_ble_eq_true rfl) ?_
  unfold strat at hq
  refine x_aload_n dX12_stratum_0 rfl rfl ?_
  refine xm_geta dX12_stratum_1 lf_X12_13 vma_3 ?_
  refine x_iload_n dX12_stratum_4 rfl rfl ?_
  refine xm_iald 3 dX12_stratum_5 mf_3 hi hin hj ?_
  refine x_bipush (v := 25) dX12_stratum_6 (by decide) ?_
  refine x_icmp_ge (tgt := 15) dX12_stratum_8 (by decide) (fun h8 => ?_) (fun h8 => ?_)
  · refine x_aload_n dX12_stratum_15 rfl rfl ?_
    refine xm_geta dX12_stratum_16 lf_X12_13 vma_3 ?_
    refine x_iload_n dX12_stratum_19 rfl rfl ?_
    refine xm_iald 3 dX12_stratum_20 mf_3 hi hin hj ?_
    refine x_bipush (v := 45) dX12_stratum_21 (by decide) ?_
    refine x_icmp_ge (tgt := 30) dX12_stratum_23 (by decide) (fun h23 => ?_) (fun h23 => ?_)
    · refine x_aload_n dX12_stratum_30 rfl rfl ?_
      refine xm_geta dX12_stratum_31 lf_X12_13 vma_3 ?_
      refine x_iload_n dX12_stratum_34 rfl rfl ?_
      refine xm_iald 3 dX12_stratum_35 mf_3 hi hin hj ?_
      refine x_bipush (v := 65) dX12_stratum_36 (by decide) ?_
      refine x_icmp_ge (tgt := 45) dX12_stratum_38 (by decide) (fun h38 => ?_) (fun h38 => ?_)
      · refine x_iconst (v := 3) dX12_stratum_45 (by decide) ?_
        exact x_ireturn dX12_stratum_46 rfl rfl (by first | (rw [if_pos (Int32.not_le.mp h8)] at hq; exact hq) | (rw [if_neg (Int32.not_lt.mpr h8), if_pos (Int32.not_le.mp h23)] at hq; exact hq) | (rw [if_neg (Int32.not_lt.mpr h8), if_neg (Int32.not_lt.mpr h23), if_pos (Int32.not_le.mp h38)] at hq; exact hq) | (rw [if_neg (Int32.not_lt.mpr h8), if_neg (Int32.not_lt.mpr h23), if_neg (Int32.not_lt.mpr h38)] at hq; exact hq))
      · refine x_iconst (v := 2) dX12_stratum_41 (by decide) ?_
        refine x_goto (tgt := 46) dX12_stratum_42 (by decide) ?_
        exact x_ireturn dX12_stratum_46 rfl rfl (by first | (rw [if_pos (Int32.not_le.mp h8)] at hq; exact hq) | (rw [if_neg (Int32.not_lt.mpr h8), if_pos (Int32.not_le.mp h23)] at hq; exact hq) | (rw [if_neg (Int32.not_lt.mpr h8), if_neg (Int32.not_lt.mpr h23), if_pos (Int32.not_le.mp h38)] at hq; exact hq) | (rw [if_neg (Int32.not_lt.mpr h8), if_neg (Int32.not_lt.mpr h23), if_neg (Int32.not_lt.mpr h38)] at hq; exact hq))
    · refine x_iconst (v := 1) dX12_stratum_26 (by decide) ?_
      refine x_goto (tgt := 46) dX12_stratum_27 (by decide) ?_
      exact x_ireturn dX12_stratum_46 rfl rfl (by first | (rw [if_pos (Int32.not_le.mp h8)] at hq; exact hq) | (rw [if_neg (Int32.not_lt.mpr h8), if_pos (Int32.not_le.mp h23)] at hq; exact hq) | (rw [if_neg (Int32.not_lt.mpr h8), if_neg (Int32.not_lt.mpr h23), if_pos (Int32.not_le.mp h38)] at hq; exact hq) | (rw [if_neg (Int32.not_lt.mpr h8), if_neg (Int32.not_lt.mpr h23), if_neg (Int32.not_lt.mpr h38)] at hq; exact hq))
  · refine x_iconst (v := 0) dX12_stratum_11 (by decide) ?_
    refine x_goto (tgt := 46) dX12_stratum_12 (by decide) ?_
    exact x_ireturn dX12_stratum_46 rfl rfl (by first | (rw [if_pos (Int32.not_le.mp h8)] at hq; exact hq) | (rw [if_neg (Int32.not_lt.mpr h8), if_pos (Int32.not_le.mp h23)] at hq; exact hq) | (rw [if_neg (Int32.not_lt.mpr h8), if_neg (Int32.not_lt.mpr h23), if_pos (Int32.not_le.mp h38)] at hq; exact hq) | (rw [if_neg (Int32.not_lt.mpr h8), if_neg (Int32.not_lt.mpr h23), if_neg (Int32.not_lt.mpr h38)] at hq; exact hq))
theorem c_X12_alikeOf {p by' : Int32} {j : Nat} (hi : adOK ad) (hc : Cnt σ) (hp : p = nI j) (hj : j < cn σ 15) (hq : Q (some (.int (spAlike σ j by' (cn σ 15)))) (mm ad σ)) : CT G (d + 1) (0, 0) MX12_alikeOf [.ref (ad 99), .int p, .int by'] (mm ad σ) Q := by
  subst hp
  obtain ⟨hp1, hp2⟩ := hc.b 15 (b := 24) (by decide)
  have hinj : vp_in (nI j) 24 := vp_in_nI (by omega) (by decide)
  have hjc : (nI j).toNatClampNeg = j := nI_clamp (by omega)
  refine CT.of rfl (Nat.le_of_ble_eq_true rfl) ?_
  refine x_iconst (v := 0) dX12_alikeOf_0 (by decide) ?_
  refine x_istore_n dX12_alikeOf_1 rfl (by decide) ?_
  refine x_iconst (v := 0) dX12_alikeOf_2 (by decide) ?_
  refine x_istore dX12_alikeOf_3 (by decide) ?_
  refine x_loc [(0, .ref (ad 99)), (1, .int (nI j)), (2, .int by'), (3, .int (spAlike σ j by' 0)), (4, .int (nI 0))] ⟨rfl, rfl, rfl, rfl, rfl, trivial⟩ ?_
  refine loop_up (P := fun i => XJ G (d + 1) (0, 0) MX12_alikeOf (mm ad σ) [(0, .ref (ad 99)), (1, .int (nI j)), (2, .int by'), (3, .int (spAlike σ j by' i)), (4, .int (nI i))] [] 5 Q) (n := cn σ 15) ?_ ?_ 0 (Nat.zero_le _)
  · refine x_iload dX12_alikeOf_5 rfl ?_
    refine x_aload_n dX12_alikeOf_7 rfl rfl ?_
    refine xm_geti dX12_alikeOf_8 lf_X12_149 vmi_15 ?_
    refine x_icmp_ge (tgt := 104) dX12_alikeOf_11 (by decide) (fun _ => ?_) (fun z => absurd (loopT hp1) z)
    refine x_iload_n dX12_alikeOf_104 rfl rfl ?_
    exact x_ireturn dX12_alikeOf_105 rfl rfl (hq)
  · intro i hlt ih
    have hin : vp_in (nI i) 24 := vp_in_nI (by omega) (by decide)
    have hcl : (nI i).toNatClampNeg = i := nI_clamp (by omega)
    refine x_iload dX12_alikeOf_5 rfl ?_
    refine x_aload_n dX12_alikeOf_7 rfl rfl ?_
    refine xm_geti dX12_alikeOf_8 lf_X12_149 vmi_15 ?_
    refine x_icmp_ge (tgt := 104) dX12_alikeOf_11 (by decide) (fun z => absurd z (loopF hp1 hlt (by omega))) (fun _ => ?_)
    refine x_iload_n dX12_alikeOf_14 rfl rfl ?_
    refine x_iconst (v := 1) dX12_alikeOf_15 (by decide) ?_
    refine x_iand dX12_alikeOf_16 ?_
    refine x_if_eq (tgt := 36) dX12_alikeOf_17 (by decide) (fun h17 => ?_) (fun h17 => ?_)
    · refine x_iload_n dX12_alikeOf_36 rfl rfl ?_
      refine x_iconst (v := 2) dX12_alikeOf_37 (by decide) ?_
      refine x_iand dX12_alikeOf_38 ?_
      refine x_if_eq (tgt := 56) dX12_alikeOf_39 (by decide) (fun h39 => ?_) (fun h39 => ?_)
      · refine x_iload_n dX12_alikeOf_56 rfl rfl ?_
        refine x_iconst (v := 4) dX12_alikeOf_57 (by decide) ?_
        refine x_iand dX12_alikeOf_58 ?_
        refine x_if_eq (tgt := 78) dX12_alikeOf_59 (by decide) (fun h59 => ?_) (fun h59 => ?_)
        · refine x_iconst (v := 1) dX12_alikeOf_78 (by decide) ?_
          refine x_goto (tgt := 83) dX12_alikeOf_79 (by decide) ?_
          refine x_istore dX12_alikeOf_83 (by decide) ?_
          refine x_iload_n dX12_alikeOf_85 rfl rfl ?_
          refine x_iload dX12_alikeOf_86 rfl ?_
          refine x_if_eq (tgt := 95) dX12_alikeOf_88 (by decide) (fun z => absurd z (by decide)) (fun _ => ?_)
          refine x_iconst (v := 1) dX12_alikeOf_91 (by decide) ?_
          refine x_goto (tgt := 96) dX12_alikeOf_92 (by decide) ?_
          refine x_iadd dX12_alikeOf_96 ?_
          refine x_istore_n dX12_alikeOf_97 rfl (by decide) ?_
          refine x_iinc (c := 1) dX12_alikeOf_98 rfl (by decide) ?_
          refine x_goto (tgt := 5) dX12_alikeOf_101 (by decide) ?_
          refine x_loc _ (?_ : lle _ _) ih
          refine ⟨rfl, rfl, rfl, ?_, ?_, trivial⟩
          · show some (Value.int _) = some (Value.int (cI (like σ j i by') (spAlike σ j by' i + 1) (spAlike σ j by' i)))
            first
            | rw [cI_t (by clear ih hq; unfold like; grind)]
            | rw [cI_f (by clear ih hq; unfold like; grind), Int32.add_zero]
          · show some (Value.int _) = some (Value.int (nI (i + 1)))
            rw [← nI_1]
        · refine x_aload_n dX12_alikeOf_62 rfl rfl ?_
          refine xm_geta dX12_alikeOf_63 lf_X12_16 vma_4 ?_
          refine x_iload dX12_alikeOf_66 rfl ?_
          refine xm_iald 4 dX12_alikeOf_68 mf_4 hi hin hcl ?_
          refine x_aload_n dX12_alikeOf_69 rfl rfl ?_
          refine xm_geta dX12_alikeOf_70 lf_X12_16 vma_4 ?_
          refine x_iload_n dX12_alikeOf_73 rfl rfl ?_
          refine xm_iald 4 dX12_alikeOf_74 mf_4 hi hinj hjc ?_
          refine x_icmp_ne (tgt := 82) dX12_alikeOf_75 (by decide) (fun h75 => ?_) (fun h75 => ?_)
          · refine x_iconst (v := 0) dX12_alikeOf_82 (by decide) ?_
            refine x_istore dX12_alikeOf_83 (by decide) ?_
            refine x_iload_n dX12_alikeOf_85 rfl rfl ?_
            refine x_iload dX12_alikeOf_86 rfl ?_
            refine x_if_eq (tgt := 95) dX12_alikeOf_88 (by decide) (fun _ => ?_) (fun z => absurd (by decide) z)
            refine x_iconst (v := 0) dX12_alikeOf_95 (by decide) ?_
            refine x_iadd dX12_alikeOf_96 ?_
            refine x_istore_n dX12_alikeOf_97 rfl (by decide) ?_
            refine x_iinc (c := 1) dX12_alikeOf_98 rfl (by decide) ?_
            refine x_goto (tgt := 5) dX12_alikeOf_101 (by decide) ?_
            refine x_loc _ (?_ : lle _ _) ih
            refine ⟨rfl, rfl, rfl, ?_, ?_, trivial⟩
            · show some (Value.int _) = some (Value.int (cI (like σ j i by') (spAlike σ j by' i + 1) (spAlike σ j by' i)))
              first
              | rw [cI_t (by clear ih hq; unfold like; grind)]
              | rw [cI_f (by clear ih hq; unfold like; grind), Int32.add_zero]
            · show some (Value.int _) = some (Value.int (nI (i + 1)))
              rw [← nI_1]
          · refine x_iconst (v := 1) dX12_alikeOf_78 (by decide) ?_
            refine x_goto (tgt := 83) dX12_alikeOf_79 (by decide) ?_
            refine x_istore dX12_alikeOf_83 (by decide) ?_
            refine x_iload_n dX12_alikeOf_85 rfl rfl ?_
            refine x_iload dX12_alikeOf_86 rfl ?_
            refine x_if_eq (tgt := 95) dX12_alikeOf_88 (by decide) (fun z => absurd z (by decide)) (fun _ => ?_)
            refine x_iconst (v := 1) dX12_alikeOf_91 (by decide) ?_
            refine x_goto (tgt := 96) dX12_alikeOf_92 (by decide) ?_
            refine x_iadd dX12_alikeOf_96 ?_
            refine x_istore_n dX12_alikeOf_97 rfl (by decide) ?_
            refine x_iinc (c := 1) dX12_alikeOf_98 rfl (by decide) ?_
            refine x_goto (tgt := 5) dX12_alikeOf_101 (by decide) ?_
            refine x_loc _ (?_ : lle _ _) ih
            refine ⟨rfl, rfl, rfl, ?_, ?_, trivial⟩
            · show some (Value.int _) = some (Value.int (cI (like σ j i by') (spAlike σ j by' i + 1) (spAlike σ j by' i)))
              first
              | rw [cI_t (by clear ih hq; unfold like; grind)]
              | rw [cI_f (by clear ih hq; unfold like; grind), Int32.add_zero]
            · show some (Value.int _) = some (Value.int (nI (i + 1)))
              rw [← nI_1]
      · refine x_aload_n dX12_alikeOf_42 rfl rfl ?_
        refine x_iload dX12_alikeOf_43 rfl ?_
        refine x_cV1 dX12_alikeOf_45 lv_X12_348 mm_obj rfl rfl rfl  (c_X12_stratum hi hin hcl ?_)
        refine x_aload_n dX12_alikeOf_48 rfl rfl ?_
        refine x_iload_n dX12_alikeOf_49 rfl rfl ?_
        refine x_cV1 dX12_alikeOf_50 lv_X12_348 mm_obj rfl rfl rfl  (c_X12_stratum hi hinj hjc ?_)
        refine x_icmp_ne (tgt := 82) dX12_alikeOf_53 (by decide) (fun h53 => ?_) (fun h53 => ?_)
        · refine x_iconst (v := 0) dX12_alikeOf_82 (by decide) ?_
          refine x_istore dX12_alikeOf_83 (by decide) ?_
          refine x_iload_n dX12_alikeOf_85 rfl rfl ?_
          refine x_iload dX12_alikeOf_86 rfl ?_
          refine x_if_eq (tgt := 95) dX12_alikeOf_88 (by decide) (fun _ => ?_) (fun z => absurd (by decide) z)
          refine x_iconst (v := 0) dX12_alikeOf_95 (by decide) ?_
          refine x_iadd dX12_alikeOf_96 ?_
          refine x_istore_n dX12_alikeOf_97 rfl (by decide) ?_
          refine x_iinc (c := 1) dX12_alikeOf_98 rfl (by decide) ?_
          refine x_goto (tgt := 5) dX12_alikeOf_101 (by decide) ?_
          refine x_loc _ (?_ : lle _ _) ih
          refine ⟨rfl, rfl, rfl, ?_, ?_, trivial⟩
          · show some (Value.int _) = some (Value.int (cI (like σ j i by') (spAlike σ j by' i + 1) (spAlike σ j by' i)))
            first
            | rw [cI_t (by clear ih hq; unfold like; grind)]
            | rw [cI_f (by clear ih hq; unfold like; grind), Int32.add_zero]
          · show some (Value.int _) = some (Value.int (nI (i + 1)))
            rw [← nI_1]
        · refine x_iload_n dX12_alikeOf_56 rfl rfl ?_
          refine x_iconst (v := 4) dX12_alikeOf_57 (by decide) ?_
          refine x_iand dX12_alikeOf_58 ?_
          refine x_if_eq (tgt := 78) dX12_alikeOf_59 (by decide) (fun h59 => ?_) (fun h59 => ?_)
          · refine x_iconst (v := 1) dX12_alikeOf_78 (by decide) ?_
            refine x_goto (tgt := 83) dX12_alikeOf_79 (by decide) ?_
            refine x_istore dX12_alikeOf_83 (by decide) ?_
            refine x_iload_n dX12_alikeOf_85 rfl rfl ?_
            refine x_iload dX12_alikeOf_86 rfl ?_
            refine x_if_eq (tgt := 95) dX12_alikeOf_88 (by decide) (fun z => absurd z (by decide)) (fun _ => ?_)
            refine x_iconst (v := 1) dX12_alikeOf_91 (by decide) ?_
            refine x_goto (tgt := 96) dX12_alikeOf_92 (by decide) ?_
            refine x_iadd dX12_alikeOf_96 ?_
            refine x_istore_n dX12_alikeOf_97 rfl (by decide) ?_
            refine x_iinc (c := 1) dX12_alikeOf_98 rfl (by decide) ?_
            refine x_goto (tgt := 5) dX12_alikeOf_101 (by decide) ?_
            refine x_loc _ (?_ : lle _ _) ih
            refine ⟨rfl, rfl, rfl, ?_, ?_, trivial⟩
            · show some (Value.int _) = some (Value.int (cI (like σ j i by') (spAlike σ j by' i + 1) (spAlike σ j by' i)))
              first
              | rw [cI_t (by clear ih hq; unfold like; grind)]
              | rw [cI_f (by clear ih hq; unfold like; grind), Int32.add_zero]
            · show some (Value.int _) = some (Value.int (nI (i + 1)))
              rw [← nI_1]
          · refine x_aload_n dX12_alikeOf_62 rfl rfl ?_
            refine xm_geta dX12_alikeOf_63 lf_X12_16 vma_4 ?_
            refine x_iload dX12_alikeOf_66 rfl ?_
            refine xm_iald 4 dX12_alikeOf_68 mf_4 hi hin hcl ?_
            refine x_aload_n dX12_alikeOf_69 rfl rfl ?_
            refine xm_geta dX12_alikeOf_70 lf_X12_16 vma_4 ?_
            refine x_iload_n dX12_alikeOf_73 rfl rfl ?_
            refine xm_iald 4 dX12_alikeOf_74 mf_4 hi hinj hjc ?_
            refine x_icmp_ne (tgt := 82) dX12_alikeOf_75 (by decide) (fun h75 => ?_) (fun h75 => ?_)
            · refine x_iconst (v := 0) dX12_alikeOf_82 (by decide) ?_
              refine x_istore dX12_alikeOf_83 (by decide) ?_
              refine x_iload_n dX12_alikeOf_85 rfl rfl ?_
              refine x_iload dX12_alikeOf_86 rfl ?_
              refine x_if_eq (tgt := 95) dX12_alikeOf_88 (by decide) (fun _ => ?_) (fun z => absurd (by decide) z)
              refine x_iconst (v := 0) dX12_alikeOf_95 (by decide) ?_
              refine x_iadd dX12_alikeOf_96 ?_
              refine x_istore_n dX12_alikeOf_97 rfl (by decide) ?_
              refine x_iinc (c := 1) dX12_alikeOf_98 rfl (by decide) ?_
              refine x_goto (tgt := 5) dX12_alikeOf_101 (by decide) ?_
              refine x_loc _ (?_ : lle _ _) ih
              refine ⟨rfl, rfl, rfl, ?_, ?_, trivial⟩
              · show some (Value.int _) = some (Value.int (cI (like σ j i by') (spAlike σ j by' i + 1) (spAlike σ j by' i)))
                first
                | rw [cI_t (by clear ih hq; unfold like; grind)]
                | rw [cI_f (by clear ih hq; unfold like; grind), Int32.add_zero]
              · show some (Value.int _) = some (Value.int (nI (i + 1)))
                rw [← nI_1]
            · refine x_iconst (v := 1) dX12_alikeOf_78 (by decide) ?_
              refine x_goto (tgt := 83) dX12_alikeOf_79 (by decide) ?_
              refine x_istore dX12_alikeOf_83 (by decide) ?_
              refine x_iload_n dX12_alikeOf_85 rfl rfl ?_
              refine x_iload dX12_alikeOf_86 rfl ?_
              refine x_if_eq (tgt := 95) dX12_alikeOf_88 (by decide) (fun z => absurd z (by decide)) (fun _ => ?_)
              refine x_iconst (v := 1) dX12_alikeOf_91 (by decide) ?_
              refine x_goto (tgt := 96) dX12_alikeOf_92 (by decide) ?_
              refine x_iadd dX12_alikeOf_96 ?_
              refine x_istore_n dX12_alikeOf_97 rfl (by decide) ?_
              refine x_iinc (c := 1) dX12_alikeOf_98 rfl (by decide) ?_
              refine x_goto (tgt := 5) dX12_alikeOf_101 (by decide) ?_
              refine x_loc _ (?_ : lle _ _) ih
              refine ⟨rfl, rfl, rfl, ?_, ?_, trivial⟩
              · show some (Value.int _) = some (Value.int (cI (like σ j i by') (spAlike σ j by' i + 1) (spAlike σ j by' i)))
                first
                | rw [cI_t (by clear ih hq; unfold like; grind)]
                | rw [cI_f (by clear ih hq; unfold like; grind), Int32.add_zero]
              · show some (Value.int _) = some (Value.int (nI (i + 1)))
                rw [← nI_1]
    · refine x_aload_n dX12_alikeOf_20 rfl rfl ?_
      refine xm_geta dX12_alikeOf_21 lf_X12_9 vma_2 ?_
      refine x_iload dX12_alikeOf_24 rfl ?_
      refine xm_iald 2 dX12_alikeOf_26 mf_2 hi hin hcl ?_
      refine x_aload_n dX12_alikeOf_27 rfl rfl ?_
      refine xm_geta dX12_alikeOf_28 lf_X12_9 vma_2 ?_
      refine x_iload_n dX12_alikeOf_31 rfl rfl ?_
      refine xm_iald 2 dX12_alikeOf_32 mf_2 hi hinj hjc ?_
      refine x_icmp_ne (tgt := 82) dX12_alikeOf_33 (by decide) (fun h33 => ?_) (fun h33 => ?_)
      · refine x_iconst (v := 0) dX12_alikeOf_82 (by decide) ?_
        refine x_istore dX12_alikeOf_83 (by decide) ?_
        refine x_iload_n dX12_alikeOf_85 rfl rfl ?_
        refine x_iload dX12_alikeOf_86 rfl ?_
        refine x_if_eq (tgt := 95) dX12_alikeOf_88 (by decide) (fun _ => ?_) (fun z => absurd (by decide) z)
        refine x_iconst (v := 0) dX12_alikeOf_95 (by decide) ?_
        refine x_iadd dX12_alikeOf_96 ?_
        refine x_istore_n dX12_alikeOf_97 rfl (by decide) ?_
        refine x_iinc (c := 1) dX12_alikeOf_98 rfl (by decide) ?_
        refine x_goto (tgt := 5) dX12_alikeOf_101 (by decide) ?_
        refine x_loc _ (?_ : lle _ _) ih
        refine ⟨rfl, rfl, rfl, ?_, ?_, trivial⟩
        · show some (Value.int _) = some (Value.int (cI (like σ j i by') (spAlike σ j by' i + 1) (spAlike σ j by' i)))
          first
          | rw [cI_t (by clear ih hq; unfold like; grind)]
          | rw [cI_f (by clear ih hq; unfold like; grind), Int32.add_zero]
        · show some (Value.int _) = some (Value.int (nI (i + 1)))
          rw [← nI_1]
      · refine x_iload_n dX12_alikeOf_36 rfl rfl ?_
        refine x_iconst (v := 2) dX12_alikeOf_37 (by decide) ?_
        refine x_iand dX12_alikeOf_38 ?_
        refine x_if_eq (tgt := 56) dX12_alikeOf_39 (by decide) (fun h39 => ?_) (fun h39 => ?_)
        · refine x_iload_n dX12_alikeOf_56 rfl rfl ?_
          refine x_iconst (v := 4) dX12_alikeOf_57 (by decide) ?_
          refine x_iand dX12_alikeOf_58 ?_
          refine x_if_eq (tgt := 78) dX12_alikeOf_59 (by decide) (fun h59 => ?_) (fun h59 => ?_)
          · refine x_iconst (v := 1) dX12_alikeOf_78 (by decide) ?_
            refine x_goto (tgt := 83) dX12_alikeOf_79 (by decide) ?_
            refine x_istore dX12_alikeOf_83 (by decide) ?_
            refine x_iload_n dX12_alikeOf_85 rfl rfl ?_
            refine x_iload dX12_alikeOf_86 rfl ?_
            refine x_if_eq (tgt := 95) dX12_alikeOf_88 (by decide) (fun z => absurd z (by decide)) (fun _ => ?_)
            refine x_iconst (v := 1) dX12_alikeOf_91 (by decide) ?_
            refine x_goto (tgt := 96) dX12_alikeOf_92 (by decide) ?_
            refine x_iadd dX12_alikeOf_96 ?_
            refine x_istore_n dX12_alikeOf_97 rfl (by decide) ?_
            refine x_iinc (c := 1) dX12_alikeOf_98 rfl (by decide) ?_
            refine x_goto (tgt := 5) dX12_alikeOf_101 (by decide) ?_
            refine x_loc _ (?_ : lle _ _) ih
            refine ⟨rfl, rfl, rfl, ?_, ?_, trivial⟩
            · show some (Value.int _) = some (Value.int (cI (like σ j i by') (spAlike σ j by' i + 1) (spAlike σ j by' i)))
              first
              | rw [cI_t (by clear ih hq; unfold like; grind)]
              | rw [cI_f (by clear ih hq; unfold like; grind), Int32.add_zero]
            · show some (Value.int _) = some (Value.int (nI (i + 1)))
              rw [← nI_1]
          · refine x_aload_n dX12_alikeOf_62 rfl rfl ?_
            refine xm_geta dX12_alikeOf_63 lf_X12_16 vma_4 ?_
            refine x_iload dX12_alikeOf_66 rfl ?_
            refine xm_iald 4 dX12_alikeOf_68 mf_4 hi hin hcl ?_
            refine x_aload_n dX12_alikeOf_69 rfl rfl ?_
            refine xm_geta dX12_alikeOf_70 lf_X12_16 vma_4 ?_
            refine x_iload_n dX12_alikeOf_73 rfl rfl ?_
            refine xm_iald 4 dX12_alikeOf_74 mf_4 hi hinj hjc ?_
            refine x_icmp_ne (tgt := 82) dX12_alikeOf_75 (by decide) (fun h75 => ?_) (fun h75 => ?_)
            · refine x_iconst (v := 0) dX12_alikeOf_82 (by decide) ?_
              refine x_istore dX12_alikeOf_83 (by decide) ?_
              refine x_iload_n dX12_alikeOf_85 rfl rfl ?_
              refine x_iload dX12_alikeOf_86 rfl ?_
              refine x_if_eq (tgt := 95) dX12_alikeOf_88 (by decide) (fun _ => ?_) (fun z => absurd (by decide) z)
              refine x_iconst (v := 0) dX12_alikeOf_95 (by decide) ?_
              refine x_iadd dX12_alikeOf_96 ?_
              refine x_istore_n dX12_alikeOf_97 rfl (by decide) ?_
              refine x_iinc (c := 1) dX12_alikeOf_98 rfl (by decide) ?_
              refine x_goto (tgt := 5) dX12_alikeOf_101 (by decide) ?_
              refine x_loc _ (?_ : lle _ _) ih
              refine ⟨rfl, rfl, rfl, ?_, ?_, trivial⟩
              · show some (Value.int _) = some (Value.int (cI (like σ j i by') (spAlike σ j by' i + 1) (spAlike σ j by' i)))
                first
                | rw [cI_t (by clear ih hq; unfold like; grind)]
                | rw [cI_f (by clear ih hq; unfold like; grind), Int32.add_zero]
              · show some (Value.int _) = some (Value.int (nI (i + 1)))
                rw [← nI_1]
            · refine x_iconst (v := 1) dX12_alikeOf_78 (by decide) ?_
              refine x_goto (tgt := 83) dX12_alikeOf_79 (by decide) ?_
              refine x_istore dX12_alikeOf_83 (by decide) ?_
              refine x_iload_n dX12_alikeOf_85 rfl rfl ?_
              refine x_iload dX12_alikeOf_86 rfl ?_
              refine x_if_eq (tgt := 95) dX12_alikeOf_88 (by decide) (fun z => absurd z (by decide)) (fun _ => ?_)
              refine x_iconst (v := 1) dX12_alikeOf_91 (by decide) ?_
              refine x_goto (tgt := 96) dX12_alikeOf_92 (by decide) ?_
              refine x_iadd dX12_alikeOf_96 ?_
              refine x_istore_n dX12_alikeOf_97 rfl (by decide) ?_
              refine x_iinc (c := 1) dX12_alikeOf_98 rfl (by decide) ?_
              refine x_goto (tgt := 5) dX12_alikeOf_101 (by decide) ?_
              refine x_loc _ (?_ : lle _ _) ih
              refine ⟨rfl, rfl, rfl, ?_, ?_, trivial⟩
              · show some (Value.int _) = some (Value.int (cI (like σ j i by') (spAlike σ j by' i + 1) (spAlike σ j by' i)))
                first
                | rw [cI_t (by clear ih hq; unfold like; grind)]
                | rw [cI_f (by clear ih hq; unfold like; grind), Int32.add_zero]
              · show some (Value.int _) = some (Value.int (nI (i + 1)))
                rw [← nI_1]
        · refine x_aload_n dX12_alikeOf_42 rfl rfl ?_
          refine x_iload dX12_alikeOf_43 rfl ?_
          refine x_cV1 dX12_alikeOf_45 lv_X12_348 mm_obj rfl rfl rfl  (c_X12_stratum hi hin hcl ?_)
          refine x_aload_n dX12_alikeOf_48 rfl rfl ?_
          refine x_iload_n dX12_alikeOf_49 rfl rfl ?_
          refine x_cV1 dX12_alikeOf_50 lv_X12_348 mm_obj rfl rfl rfl  (c_X12_stratum hi hinj hjc ?_)
          refine x_icmp_ne (tgt := 82) dX12_alikeOf_53 (by decide) (fun h53 => ?_) (fun h53 => ?_)
          · refine x_iconst (v := 0) dX12_alikeOf_82 (by decide) ?_
            refine x_istore dX12_alikeOf_83 (by decide) ?_
            refine x_iload_n dX12_alikeOf_85 rfl rfl ?_
            refine x_iload dX12_alikeOf_86 rfl ?_
            refine x_if_eq (tgt := 95) dX12_alikeOf_88 (by decide) (fun _ => ?_) (fun z => absurd (by decide) z)
            refine x_iconst (v := 0) dX12_alikeOf_95 (by decide) ?_
            refine x_iadd dX12_alikeOf_96 ?_
            refine x_istore_n dX12_alikeOf_97 rfl (by decide) ?_
            refine x_iinc (c := 1) dX12_alikeOf_98 rfl (by decide) ?_
            refine x_goto (tgt := 5) dX12_alikeOf_101 (by decide) ?_
            refine x_loc _ (?_ : lle _ _) ih
            refine ⟨rfl, rfl, rfl, ?_, ?_, trivial⟩
            · show some (Value.int _) = some (Value.int (cI (like σ j i by') (spAlike σ j by' i + 1) (spAlike σ j by' i)))
              first
              | rw [cI_t (by clear ih hq; unfold like; grind)]
              | rw [cI_f (by clear ih hq; unfold like; grind), Int32.add_zero]
            · show some (Value.int _) = some (Value.int (nI (i + 1)))
              rw [← nI_1]
          · refine x_iload_n dX12_alikeOf_56 rfl rfl ?_
            refine x_iconst (v := 4) dX12_alikeOf_57 (by decide) ?_
            refine x_iand dX12_alikeOf_58 ?_
            refine x_if_eq (tgt := 78) dX12_alikeOf_59 (by decide) (fun h59 => ?_) (fun h59 => ?_)
            · refine x_iconst (v := 1) dX12_alikeOf_78 (by decide) ?_
              refine x_goto (tgt := 83) dX12_alikeOf_79 (by decide) ?_
              refine x_istore dX12_alikeOf_83 (by decide) ?_
              refine x_iload_n dX12_alikeOf_85 rfl rfl ?_
              refine x_iload dX12_alikeOf_86 rfl ?_
              refine x_if_eq (tgt := 95) dX12_alikeOf_88 (by decide) (fun z => absurd z (by decide)) (fun _ => ?_)
              refine x_iconst (v := 1) dX12_alikeOf_91 (by decide) ?_
              refine x_goto (tgt := 96) dX12_alikeOf_92 (by decide) ?_
              refine x_iadd dX12_alikeOf_96 ?_
              refine x_istore_n dX12_alikeOf_97 rfl (by decide) ?_
              refine x_iinc (c := 1) dX12_alikeOf_98 rfl (by decide) ?_
              refine x_goto (tgt := 5) dX12_alikeOf_101 (by decide) ?_
              refine x_loc _ (?_ : lle _ _) ih
              refine ⟨rfl, rfl, rfl, ?_, ?_, trivial⟩
              · show some (Value.int _) = some (Value.int (cI (like σ j i by') (spAlike σ j by' i + 1) (spAlike σ j by' i)))
                first
                | rw [cI_t (by clear ih hq; unfold like; grind)]
                | rw [cI_f (by clear ih hq; unfold like; grind), Int32.add_zero]
              · show some (Value.int _) = some (Value.int (nI (i + 1)))
                rw [← nI_1]
            · refine x_aload_n dX12_alikeOf_62 rfl rfl ?_
              refine xm_geta dX12_alikeOf_63 lf_X12_16 vma_4 ?_
              refine x_iload dX12_alikeOf_66 rfl ?_
              refine xm_iald 4 dX12_alikeOf_68 mf_4 hi hin hcl ?_
              refine x_aload_n dX12_alikeOf_69 rfl rfl ?_
              refine xm_geta dX12_alikeOf_70 lf_X12_16 vma_4 ?_
              refine x_iload_n dX12_alikeOf_73 rfl rfl ?_
              refine xm_iald 4 dX12_alikeOf_74 mf_4 hi hinj hjc ?_
              refine x_icmp_ne (tgt := 82) dX12_alikeOf_75 (by decide) (fun h75 => ?_) (fun h75 => ?_)
              · refine x_iconst (v := 0) dX12_alikeOf_82 (by decide) ?_
                refine x_istore dX12_alikeOf_83 (by decide) ?_
                refine x_iload_n dX12_alikeOf_85 rfl rfl ?_
                refine x_iload dX12_alikeOf_86 rfl ?_
                refine x_if_eq (tgt := 95) dX12_alikeOf_88 (by decide) (fun _ => ?_) (fun z => absurd (by decide) z)
                refine x_iconst (v := 0) dX12_alikeOf_95 (by decide) ?_
                refine x_iadd dX12_alikeOf_96 ?_
                refine x_istore_n dX12_alikeOf_97 rfl (by decide) ?_
                refine x_iinc (c := 1) dX12_alikeOf_98 rfl (by decide) ?_
                refine x_goto (tgt := 5) dX12_alikeOf_101 (by decide) ?_
                refine x_loc _ (?_ : lle _ _) ih
                refine ⟨rfl, rfl, rfl, ?_, ?_, trivial⟩
                · show some (Value.int _) = some (Value.int (cI (like σ j i by') (spAlike σ j by' i + 1) (spAlike σ j by' i)))
                  first
                  | rw [cI_t (by clear ih hq; unfold like; grind)]
                  | rw [cI_f (by clear ih hq; unfold like; grind), Int32.add_zero]
                · show some (Value.int _) = some (Value.int (nI (i + 1)))
                  rw [← nI_1]
              · refine x_iconst (v := 1) dX12_alikeOf_78 (by decide) ?_
                refine x_goto (tgt := 83) dX12_alikeOf_79 (by decide) ?_
                refine x_istore dX12_alikeOf_83 (by decide) ?_
                refine x_iload_n dX12_alikeOf_85 rfl rfl ?_
                refine x_iload dX12_alikeOf_86 rfl ?_
                refine x_if_eq (tgt := 95) dX12_alikeOf_88 (by decide) (fun z => absurd z (by decide)) (fun _ => ?_)
                refine x_iconst (v := 1) dX12_alikeOf_91 (by decide) ?_
                refine x_goto (tgt := 96) dX12_alikeOf_92 (by decide) ?_
                refine x_iadd dX12_alikeOf_96 ?_
                refine x_istore_n dX12_alikeOf_97 rfl (by decide) ?_
                refine x_iinc (c := 1) dX12_alikeOf_98 rfl (by decide) ?_
                refine x_goto (tgt := 5) dX12_alikeOf_101 (by decide) ?_
                refine x_loc _ (?_ : lle _ _) ih
                refine ⟨rfl, rfl, rfl, ?_, ?_, trivial⟩
                · show some (Value.int _) = some (Value.int (cI (like σ j i by') (spAlike σ j by' i + 1) (spAlike σ j by' i)))
                  first
                  | rw [cI_t (by clear ih hq; unfold like; grind)]
                  | rw [cI_f (by clear ih hq; unfold like; grind), Int32.add_zero]
                · show some (Value.int _) = some (Value.int (nI (i + 1)))
                  rw [← nI_1]
theorem c_X12_alike {p by' : Int32} (hi : adOK ad) (h0 : seti σ 0 0 = σ0) (hc : Cnt σ0) (hq : Q (some (.int (aAlike σ0 p by'))) (mm ad σ0)) : CT G (d + 2) (0, 0) MX12_alike [.ref (ad 99), .int p, .int by'] (mm ad σ) Q := by
  obtain ⟨hp1, hp2⟩ := hc.b 15 (b := 24) (by decide)
  refine CT.of rfl (Nat.le_of_ble_eq_true rfl) ?_
  refine x_aload_n dX12_alike_0 rfl rfl ?_
  refine x_iconst (v := 0) dX12_alike_1 (by decide) ?_
  refine xm_puti dX12_alike_2 lp_X12_138 vmq_0 vmn_0 vmf_0 ?_
  rw [h0]
  refine x_aload_n dX12_alike_5 rfl rfl ?_
  refine x_iload_n dX12_alike_6 rfl rfl ?_
  refine x_cV1 dX12_alike_7 lv_X12_165 mm_obj rfl rfl rfl  (c_X12_isPerson ?_)
  refine x_if_eq_b (tgt := 32) dX12_alike_10 (by decide) (fun h10 => ?_) (fun h10 => ?_)
  · refine x_iconst (v := -1) dX12_alike_32 (by decide) ?_
    exact x_ireturn dX12_alike_33 rfl rfl (by first | exact hq | exact fan_f hq (fun z => by first | exact h10 z.1 | exact h20 z.2))
  · refine x_iload_n dX12_alike_13 rfl rfl ?_
    refine x_iconst (v := 0) dX12_alike_14 (by decide) ?_
    refine x_bipush (v := 7) dX12_alike_15 (by decide) ?_
    refine x_cS3 dX12_alike_17 ls_X12_145 rfl  (c_X12_isIn ?_)
    refine x_if_eq_b (tgt := 32) dX12_alike_20 (by decide) (fun h20 => ?_) (fun h20 => ?_)
    · refine x_iconst (v := -1) dX12_alike_32 (by decide) ?_
      exact x_ireturn dX12_alike_33 rfl rfl (by first | exact hq | exact fan_f hq (fun z => by first | exact h10 z.1 | exact h20 z.2))
    · have hq := fan_t hq ⟨h10, h20⟩
      obtain ⟨j, hj, rfl⟩ := of_lt h10.1 h10.2 hp1 (by omega)
      rw [nI_clamp (by omega)] at hq
      refine x_aload_n dX12_alike_23 rfl rfl ?_
      refine x_iload_n dX12_alike_24 rfl rfl ?_
      refine x_iload_n dX12_alike_25 rfl rfl ?_
      refine x_cV2 dX12_alike_26 lv_X12_385 mm_obj rfl rfl rfl  (c_X12_alikeOf hi hc rfl hj ?_)
      refine x_goto (tgt := 33) dX12_alike_29 (by decide) ?_
      exact x_ireturn dX12_alike_33 rfl rfl (by first | exact hq | exact fan_f hq (fun z => by first | exact h10 z.1 | exact h20 z.2))
theorem c_X12_priceOf {set : Int32} (hi : adOK ad) (hc : Cnt σ) (hq : Q (some (.int (spPrice σ set (cn σ 65)))) (mm ad σ)) : CT G d (0, 0) MX12_priceOf [.ref (ad 99), .int set] (mm ad σ) Q := by
  obtain ⟨hp1, hp2⟩ := hc.b 65 (b := 8) (by decide)
  refine CT.of rfl (Nat.le_of_ble_eq_true rfl) ?_
  refine x_iconst (v := 0) dX12_priceOf_0 (by decide) ?_
  refine x_istore_n dX12_priceOf_1 rfl (by decide) ?_
  refine x_iconst (v := 0) dX12_priceOf_2 (by decide) ?_
  refine x_istore_n dX12_priceOf_3 rfl (by decide) ?_
  refine x_loc [(0, .ref (ad 99)), (1, .int set), (2, .int (spPrice σ set 0)), (3, .int (nI 0))] ⟨rfl, rfl, rfl, rfl, trivial⟩ ?_
  refine loop_up (P := fun i => XJ G d (0, 0) MX12_priceOf (mm ad σ) [(0, .ref (ad 99)), (1, .int set), (2, .int (spPrice σ set i)), (3, .int (nI i))] [] 4 Q) (n := cn σ 65) ?_ ?_ 0 (Nat.zero_le _)
  · refine x_iload_n dX12_priceOf_4 rfl rfl ?_
    refine x_aload_n dX12_priceOf_5 rfl rfl ?_
    refine xm_geti dX12_priceOf_6 lf_X12_393 vmi_65 ?_
    refine x_icmp_ge (tgt := 40) dX12_priceOf_9 (by decide) (fun _ => ?_) (fun z => absurd (loopT hp1) z)
    refine x_iload_n dX12_priceOf_40 rfl rfl ?_
    exact x_ireturn dX12_priceOf_41 rfl rfl (hq)
  · intro i hlt ih
    have hin : vp_in (nI i) 8 := vp_in_nI (by omega) (by decide)
    have hcl : (nI i).toNatClampNeg = i := nI_clamp (by omega)
    refine x_iload_n dX12_priceOf_4 rfl rfl ?_
    refine x_aload_n dX12_priceOf_5 rfl rfl ?_
    refine xm_geti dX12_priceOf_6 lf_X12_393 vmi_65 ?_
    refine x_icmp_ge (tgt := 40) dX12_priceOf_9 (by decide) (fun z => absurd z (loopF hp1 hlt (by omega))) (fun _ => ?_)
    refine x_iload_n dX12_priceOf_12 rfl rfl ?_
    refine x_iload_n dX12_priceOf_13 rfl rfl ?_
    refine x_iload_n dX12_priceOf_14 rfl rfl ?_
    refine x_ishr dX12_priceOf_15 ?_
    refine x_iconst (v := 1) dX12_priceOf_16 (by decide) ?_
    refine x_iand dX12_priceOf_17 ?_
    refine x_iconst (v := 1) dX12_priceOf_18 (by decide) ?_
    refine x_icmp_ne (tgt := 31) dX12_priceOf_19 (by decide) (fun h19 => ?_) (fun h19 => ?_)
    · refine x_iconst (v := 0) dX12_priceOf_31 (by decide) ?_
      refine x_iadd dX12_priceOf_32 ?_
      refine x_istore_n dX12_priceOf_33 rfl (by decide) ?_
      refine x_iinc (c := 1) dX12_priceOf_34 rfl (by decide) ?_
      refine x_goto (tgt := 4) dX12_priceOf_37 (by decide) ?_
      refine x_loc _ (?_ : lle _ _) ih
      refine ⟨rfl, rfl, ?_, ?_, trivial⟩
      · show some (Value.int _) = some (Value.int (if (set >>> (nI i &&& 31)) &&& 1 = 1 then spPrice σ set i + σ.2 62 i else spPrice σ set i))
        clear ih hq; grind [Int32.add_zero]
      · show some (Value.int _) = some (Value.int (nI (i + 1)))
        rw [← nI_1]
    · refine x_aload_n dX12_priceOf_22 rfl rfl ?_
      refine xm_geta dX12_priceOf_23 lf_X12_129 vma_62 ?_
      refine x_iload_n dX12_priceOf_26 rfl rfl ?_
      refine xm_iald 62 dX12_priceOf_27 mf_62 hi hin hcl ?_
      refine x_goto (tgt := 32) dX12_priceOf_28 (by decide) ?_
      refine x_iadd dX12_priceOf_32 ?_
      refine x_istore_n dX12_priceOf_33 rfl (by decide) ?_
      refine x_iinc (c := 1) dX12_priceOf_34 rfl (by decide) ?_
      refine x_goto (tgt := 4) dX12_priceOf_37 (by decide) ?_
      refine x_loc _ (?_ : lle _ _) ih
      refine ⟨rfl, rfl, ?_, ?_, trivial⟩
      · show some (Value.int _) = some (Value.int (if (set >>> (nI i &&& 31)) &&& 1 = 1 then spPrice σ set i + σ.2 62 i else spPrice σ set i))
        clear ih hq; grind [Int32.add_zero]
      · show some (Value.int _) = some (Value.int (nI (i + 1)))
        rw [← nI_1]
theorem c_X12_sortsOf {set : Int32} (hi : adOK ad) (hc : Cnt σ) (hq : Q (some (.int (spSorts σ set))) (mm ad σ)) : CT G (d + 1) (0, 0) MX12_sortsOf [.ref (ad 99), .int set] (mm ad σ) Q := by
  obtain ⟨hp1, hp2⟩ := hc.b 65 (b := 8) (by decide)
  refine CT.of rfl (Nat.le_of_ble_eq_true rfl) ?_
  refine x_iconst (v := 0) dX12_sortsOf_0 (by decide) ?_
  refine x_istore_n dX12_sortsOf_1 rfl (by decide) ?_
  refine x_iconst (v := 0) dX12_sortsOf_2 (by decide) ?_
  refine x_istore_n dX12_sortsOf_3 rfl (by decide) ?_
  refine x_loc [(0, .ref (ad 99)), (1, .int set), (2, .int (spSortB σ set 0)), (3, .int (nI 0))] ⟨rfl, rfl, rfl, rfl, trivial⟩ ?_
  refine loop_up (P := fun i => XJ G (d + 1) (0, 0) MX12_sortsOf (mm ad σ) [(0, .ref (ad 99)), (1, .int set), (2, .int (spSortB σ set i)), (3, .int (nI i))] [] 4 Q) (n := cn σ 65) ?_ ?_ 0 (Nat.zero_le _)
  · refine x_iload_n dX12_sortsOf_4 rfl rfl ?_
    refine x_aload_n dX12_sortsOf_5 rfl rfl ?_
    refine xm_geti dX12_sortsOf_6 lf_X12_393 vmi_65 ?_
    refine x_icmp_ge (tgt := 40) dX12_sortsOf_9 (by decide) (fun _ => ?_) (fun z => absurd (loopT hp1) z)
    refine x_iload_n dX12_sortsOf_40 rfl rfl ?_
    refine x_cS1 dX12_sortsOf_41 ls_X12_388 rfl  (c_J6_bitCount_0f7a4 ?_)
    exact x_ireturn dX12_sortsOf_44 rfl rfl (hq)
  · intro i hlt ih
    have hin : vp_in (nI i) 8 := vp_in_nI (by omega) (by decide)
    have hcl : (nI i).toNatClampNeg = i := nI_clamp (by omega)
    refine x_iload_n dX12_sortsOf_4 rfl rfl ?_
    refine x_aload_n dX12_sortsOf_5 rfl rfl ?_
    refine xm_geti dX12_sortsOf_6 lf_X12_393 vmi_65 ?_
    refine x_icmp_ge (tgt := 40) dX12_sortsOf_9 (by decide) (fun z => absurd z (loopF hp1 hlt (by omega))) (fun _ => ?_)
    refine x_iload_n dX12_sortsOf_12 rfl rfl ?_
    refine x_iload_n dX12_sortsOf_13 rfl rfl ?_
    refine x_iload_n dX12_sortsOf_14 rfl rfl ?_
    refine x_ishr dX12_sortsOf_15 ?_
    refine x_iconst (v := 1) dX12_sortsOf_16 (by decide) ?_
    refine x_iand dX12_sortsOf_17 ?_
    refine x_iconst (v := 1) dX12_sortsOf_18 (by decide) ?_
    refine x_icmp_ne (tgt := 31) dX12_sortsOf_19 (by decide) (fun h19 => ?_) (fun h19 => ?_)
    · refine x_iconst (v := 0) dX12_sortsOf_31 (by decide) ?_
      refine x_ior dX12_sortsOf_32 ?_
      refine x_istore_n dX12_sortsOf_33 rfl (by decide) ?_
      refine x_iinc (c := 1) dX12_sortsOf_34 rfl (by decide) ?_
      refine x_goto (tgt := 4) dX12_sortsOf_37 (by decide) ?_
      refine x_loc _ (?_ : lle _ _) ih
      refine ⟨rfl, rfl, ?_, ?_, trivial⟩
      · show some (Value.int _) = some (Value.int (if (set >>> (nI i &&& 31)) &&& 1 = 1 then spSortB σ set i ||| σ.2 63 i else spSortB σ set i))
        clear ih hq; grind [Int32.or_zero]
      · show some (Value.int _) = some (Value.int (nI (i + 1)))
        rw [← nI_1]
    · refine x_aload_n dX12_sortsOf_22 rfl rfl ?_
      refine xm_geta dX12_sortsOf_23 lf_X12_132 vma_63 ?_
      refine x_iload_n dX12_sortsOf_26 rfl rfl ?_
      refine xm_iald 63 dX12_sortsOf_27 mf_63 hi hin hcl ?_
      refine x_goto (tgt := 32) dX12_sortsOf_28 (by decide) ?_
      refine x_ior dX12_sortsOf_32 ?_
      refine x_istore_n dX12_sortsOf_33 rfl (by decide) ?_
      refine x_iinc (c := 1) dX12_sortsOf_34 rfl (by decide) ?_
      refine x_goto (tgt := 4) dX12_sortsOf_37 (by decide) ?_
      refine x_loc _ (?_ : lle _ _) ih
      refine ⟨rfl, rfl, ?_, ?_, trivial⟩
      · show some (Value.int _) = some (Value.int (if (set >>> (nI i &&& 31)) &&& 1 = 1 then spSortB σ set i ||| σ.2 63 i else spSortB σ set i))
        clear ih hq; grind [Int32.or_zero]
      · show some (Value.int _) = some (Value.int (nI (i + 1)))
        rw [← nI_1]
theorem c_X12_judge {set coin : Int32} (hi : adOK ad) (h0 : seti σ 0 0 = σ0) (hc : Cnt σ0) (hq : Q (some (.int (aJudge σ0 set coin))) (mm ad σ0)) : CT G (d + 2) (0, 0) MX12_judge [.ref (ad 99), .int set, .int coin] (mm ad σ) Q := by
  refine CT.of rfl (Nat.le_of_ble_eq_true rfl) ?_
  refine x_aload_n dX12_judge_0 rfl rfl ?_
  refine x_iconst (v := 0) dX12_judge_1 (by decide) ?_
  refine xm_puti dX12_judge_2 lp_X12_138 vmq_0 vmn_0 vmf_0 ?_
  rw [h0]
  refine x_iload_n dX12_judge_5 rfl rfl ?_
  refine x_if_lt (tgt := 30) dX12_judge_6 (by decide) (fun h6 => ?_) (fun h6 => ?_)
  · refine x_bipush (v := -2) dX12_judge_30 (by decide) ?_
    exact x_ireturn dX12_judge_32 rfl rfl (fan_f hq (fun z => by first | exact absurd h6 (Int32.not_lt.mpr z.1) | exact absurd z.2.1 (Int32.not_lt.mpr h16) | exact h27 z.2.2))
  · refine x_iload_n dX12_judge_9 rfl rfl ?_
    refine x_iconst (v := 1) dX12_judge_10 (by decide) ?_
    refine x_aload_n dX12_judge_11 rfl rfl ?_
    refine xm_geti dX12_judge_12 lf_X12_393 vmi_65 ?_
    refine x_ishl dX12_judge_15 ?_
    refine x_icmp_ge (tgt := 30) dX12_judge_16 (by decide) (fun h16 => ?_) (fun h16 => ?_)
    · refine x_bipush (v := -2) dX12_judge_30 (by decide) ?_
      exact x_ireturn dX12_judge_32 rfl rfl (fan_f hq (fun z => by first | exact absurd h6 (Int32.not_lt.mpr z.1) | exact absurd z.2.1 (Int32.not_lt.mpr h16) | exact h27 z.2.2))
    · refine x_iload_n dX12_judge_19 rfl rfl ?_
      refine x_iconst (v := 0) dX12_judge_20 (by decide) ?_
      refine x_sipush (v := 400) dX12_judge_21 (by decide) ?_
      refine x_cS3 dX12_judge_24 ls_X12_145 rfl  (c_X12_isIn ?_)
      refine x_if_ne_b (tgt := 33) dX12_judge_27 (by decide) (fun h27 => ?_) (fun h27 => ?_)
      · have hq := fan_t hq ⟨Int32.not_lt.mp h6, Int32.not_le.mp h16, h27⟩
        refine x_aload_n dX12_judge_33 rfl rfl ?_
        refine x_iload_n dX12_judge_34 rfl rfl ?_
        refine x_cV1 dX12_judge_35 lv_X12_396 mm_obj rfl rfl rfl  (c_X12_priceOf hi hc ?_)
        refine x_iload_n dX12_judge_38 rfl rfl ?_
        refine x_icmp_le (tgt := 46) dX12_judge_39 (by decide) (fun h39 => ?_) (fun h39 => ?_)
        · refine x_aload_n dX12_judge_46 rfl rfl ?_
          refine x_iload_n dX12_judge_47 rfl rfl ?_
          refine x_cV1 dX12_judge_48 lv_X12_399 mm_obj rfl rfl rfl  (c_X12_sortsOf hi hc ?_)
          exact x_ireturn dX12_judge_51 rfl rfl (by first | (rw [if_neg (Int32.not_lt.mpr h39)] at hq; exact hq) | (rw [if_pos (Int32.not_le.mp h39)] at hq; exact hq))
        · refine x_iconst (v := -1) dX12_judge_42 (by decide) ?_
          refine x_goto (tgt := 51) dX12_judge_43 (by decide) ?_
          exact x_ireturn dX12_judge_51 rfl rfl (by first | (rw [if_neg (Int32.not_lt.mpr h39)] at hq; exact hq) | (rw [if_pos (Int32.not_le.mp h39)] at hq; exact hq))
      · refine x_bipush (v := -2) dX12_judge_30 (by decide) ?_
        exact x_ireturn dX12_judge_32 rfl rfl (fan_f hq (fun z => by first | exact absurd h6 (Int32.not_lt.mpr z.1) | exact absurd z.2.1 (Int32.not_lt.mpr h16) | exact h27 z.2.2))
end MDC
end
section
/-! the model's methods, 4: told, the tape, counts, leanings, questions bought, what is hidden -/
section MDD
variable {G : Gam} {d : Nat} {k : Nat × Nat} {ad : Nat → Nat} {σ σ0 : MS} {M : Mem} {Q : Option Value → Mem → Prop}
theorem c_X12_thrown (hq : Q (some (.int (σ.1 0))) (mm ad σ)) : CT G d (0, 0) MX12_thrown [.ref (ad 99)] (mm ad σ) Q := by
  refine CT.of rfl (Nat.le_of_ble_eq_true rfl) ?_
  refine x_aload_n dX12_thrown_0 rfl rfl ?_
  refine xm_geti dX12_thrown_1 lf_X12_138 vmi_0 ?_
  exact x_ireturn dX12_thrown_4 rfl rfl (hq)
theorem c_X12_told {l w : Int32} (hi : adOK ad) (hc : Cnt σ) (hq : pTold σ l w → Q (some (.int (vTold σ l.toNatClampNeg w))) (mm ad (seti σ 0 0))) (hq2 : ¬ pTold σ l w → Q (some (.int 0)) (mm ad (seti σ 0 1))) : CT G (d + 1) (0, 0) MX12_told [.ref (ad 99), .int l, .int w] (mm ad σ) Q := by
  obtain ⟨hl1, hl2⟩ := hc.b 16 (b := 200) (by decide)
  have hv : pTold σ l w → XJ G (d + 1) (0, 0) MX12_told (mm ad (seti σ 0 0)) [(0, .ref (ad 99)), (1, .int l), (2, .int w)] [] 36 Q := by
    intro hp
    have hq := hq hp
    have hin : vp_in l 200 := in_lt hp.1.1 hp.1.2 hl1 hl2 (by decide)
    obtain ⟨j, hj, rfl⟩ := nI_of2 (M := 6) (n := 6) rfl (Int32.not_lt.mpr hp.2.1) hp.2.2
    refine x_iload_n dX12_told_36 rfl rfl ?_
    have hj7 : j = 0 ∨ j = 1 ∨ j = 2 ∨ j = 3 ∨ j = 4 ∨ j = 5 ∨ j = 6 := by omega
    rcases hj7 with rfl | rfl | rfl | rfl | rfl | rfl | rfl
    · refine x_tableIn (off := 39) (tgt := 76) dX12_told_37 (by decide) (by decide) (by decide) (by decide) ?_
      refine x_aload_n dX12_told_76 rfl rfl ?_
      refine xm_geta dX12_told_77 lf_X12_28 vma_8 ?_
      refine x_iload_n dX12_told_80 rfl rfl ?_
      refine xm_iald 8 dX12_told_81 mf_8 hi hin rfl ?_
      exact x_ireturn dX12_told_82 rfl rfl (hq)
    · refine x_tableIn (off := 46) (tgt := 83) dX12_told_37 (by decide) (by decide) (by decide) (by decide) ?_
      refine x_aload_n dX12_told_83 rfl rfl ?_
      refine xm_geta dX12_told_84 lf_X12_31 vma_9 ?_
      refine x_iload_n dX12_told_87 rfl rfl ?_
      refine xm_iald 9 dX12_told_88 mf_9 hi hin rfl ?_
      exact x_ireturn dX12_told_89 rfl rfl (hq)
    · refine x_tableIn (off := 53) (tgt := 90) dX12_told_37 (by decide) (by decide) (by decide) (by decide) ?_
      refine x_aload_n dX12_told_90 rfl rfl ?_
      refine xm_geta dX12_told_91 lf_X12_34 vma_10 ?_
      refine x_iload_n dX12_told_94 rfl rfl ?_
      refine xm_iald 10 dX12_told_95 mf_10 hi hin rfl ?_
      exact x_ireturn dX12_told_96 rfl rfl (hq)
    · refine x_tableIn (off := 60) (tgt := 97) dX12_told_37 (by decide) (by decide) (by decide) (by decide) ?_
      refine x_aload_n dX12_told_97 rfl rfl ?_
      refine xm_geta dX12_told_98 lf_X12_37 vma_11 ?_
      refine x_iload_n dX12_told_101 rfl rfl ?_
      refine xm_iald 11 dX12_told_102 mf_11 hi hin rfl ?_
      exact x_ireturn dX12_told_103 rfl rfl (hq)
    · refine x_tableIn (off := 67) (tgt := 104) dX12_told_37 (by decide) (by decide) (by decide) (by decide) ?_
      refine x_aload_n dX12_told_104 rfl rfl ?_
      refine xm_geta dX12_told_105 lf_X12_40 vma_12 ?_
      refine x_iload_n dX12_told_108 rfl rfl ?_
      refine xm_iald 12 dX12_told_109 mf_12 hi hin rfl ?_
      exact x_ireturn dX12_told_110 rfl rfl (hq)
    · refine x_tableIn (off := 74) (tgt := 111) dX12_told_37 (by decide) (by decide) (by decide) (by decide) ?_
      refine x_aload_n dX12_told_111 rfl rfl ?_
      refine xm_geta dX12_told_112 lf_X12_43 vma_13 ?_
      refine x_iload_n dX12_told_115 rfl rfl ?_
      refine xm_iald 13 dX12_told_116 mf_13 hi hin rfl ?_
      exact x_ireturn dX12_told_117 rfl rfl (hq)
    · refine x_tableOut (tgt := 118) dX12_told_37 (Or.inr (by decide)) (by decide) ?_
      refine x_aload_n dX12_told_118 rfl rfl ?_
      refine xm_geta dX12_told_119 lf_X12_46 vma_14 ?_
      refine x_iload_n dX12_told_122 rfl rfl ?_
      refine xm_iald 14 dX12_told_123 mf_14 hi hin rfl ?_
      exact x_ireturn dX12_told_124 rfl rfl (hq)
  refine CT.of rfl (Nat.le_of_ble_eq_true rfl) ?_
  refine x_aload_n dX12_told_0 rfl rfl ?_
  refine x_aload_n dX12_told_1 rfl rfl ?_
  refine x_iload_n dX12_told_2 rfl rfl ?_
  refine x_cV1 dX12_told_3 lv_X12_155 mm_obj rfl rfl rfl  (c_X12_isLine ?_)
  refine x_if_eq_b (tgt := 23) dX12_told_6 (by decide) (fun h6 => ?_) (fun h6 => ?_)
  · refine x_iconst (v := 1) dX12_told_23 (by decide) ?_
    refine xm_puti dX12_told_24 lp_X12_138 vmq_0 vmn_0 vmf_0 ?_
    refine x_aload_n dX12_told_27 rfl rfl ?_
    refine xm_geti dX12_told_28 lf_X12_138 vmi_0 ?_
    refine x_if_le (tgt := 36) dX12_told_31 (by decide) (fun z => absurd z (show ¬ (1 : Int32) ≤ 0 by decide)) (fun _ => ?_)
    refine x_iconst (v := 0) dX12_told_34 (by decide) ?_
    exact x_ireturn dX12_told_35 rfl rfl (hq2 (fun z => by first | exact h6 z.1 | exact h16 z.2))
  · refine x_iload_n dX12_told_9 rfl rfl ?_
    refine x_iconst (v := 0) dX12_told_10 (by decide) ?_
    refine x_bipush (v := 6) dX12_told_11 (by decide) ?_
    refine x_cS3 dX12_told_13 ls_X12_145 rfl  (c_X12_isIn ?_)
    refine x_if_eq_b (tgt := 23) dX12_told_16 (by decide) (fun h16 => ?_) (fun h16 => ?_)
    · refine x_iconst (v := 1) dX12_told_23 (by decide) ?_
      refine xm_puti dX12_told_24 lp_X12_138 vmq_0 vmn_0 vmf_0 ?_
      refine x_aload_n dX12_told_27 rfl rfl ?_
      refine xm_geti dX12_told_28 lf_X12_138 vmi_0 ?_
      refine x_if_le (tgt := 36) dX12_told_31 (by decide) (fun z => absurd z (show ¬ (1 : Int32) ≤ 0 by decide)) (fun _ => ?_)
      refine x_iconst (v := 0) dX12_told_34 (by decide) ?_
      exact x_ireturn dX12_told_35 rfl rfl (hq2 (fun z => by first | exact h6 z.1 | exact h16 z.2))
    · refine x_iconst (v := 0) dX12_told_19 (by decide) ?_
      refine x_goto (tgt := 24) dX12_told_20 (by decide) ?_
      refine xm_puti dX12_told_24 lp_X12_138 vmq_0 vmn_0 vmf_0 ?_
      refine x_aload_n dX12_told_27 rfl rfl ?_
      refine xm_geti dX12_told_28 lf_X12_138 vmi_0 ?_
      refine x_if_le (tgt := 36) dX12_told_31 (by decide) (fun _ => ?_) (fun z => absurd (Int32.le_refl _) z)
      refine x_loc _ (?_ : lle _ _) (hv ⟨h6, h16⟩)
      exact ⟨rfl, rfl, rfl, trivial⟩
theorem c_X12_put {v : Int32} {m : Nat} (hi : adOK ad) (hm : σ.1 24 = nI m) (hb : m + nB v 4 ≤ 160) (hq : Q none (mm ad (putS v 4 σ))) : CT G d (0, 0) MX12_put [.ref (ad 99), .int v] (mm ad σ) Q := by
  have hlen := putS_len v σ hm
  refine CT.of rfl (Nat.le_of_ble_eq_true rfl) ?_
  refine x_bipush (v := 24) dX12_put_0 (by decide) ?_
  refine x_istore_n dX12_put_2 rfl (by decide) ?_
  refine x_loc [(0, .ref (ad 99)), (1, .int v), (2, .int (if 0 = 4 then -8 else nI (24 - 8 * 0)))] ⟨rfl, rfl, rfl, trivial⟩ ?_
  refine loop_up (P := fun i => XJ G d (0, 0) MX12_put (mm ad (putS v i σ)) [(0, .ref (ad 99)), (1, .int v), (2, .int (if i = 4 then -8 else nI (24 - 8 * i)))] [] 3 Q) (n := 4) ?_ ?_ 0 (Nat.zero_le _)
  · refine x_iload_n dX12_put_3 rfl rfl ?_
    refine x_if_lt (tgt := 49) dX12_put_4 (by decide) (fun _ => ?_) (fun z => absurd (by decide) z)
    exact x_return dX12_put_49 rfl (hq)
  · intro i hlt ih
    refine x_iload_n dX12_put_3 rfl rfl ?_
    have hi4 : ¬ (if i = 4 then -8 else nI (24 - 8 * i)) < 0 := by rw [if_neg (by omega)]; exact nI_pos (by omega)
    refine x_if_lt (tgt := 49) dX12_put_4 (by decide) (fun z => absurd z hi4) (fun _ => ?_)
    refine x_iload_n dX12_put_7 rfl rfl ?_
    refine x_iload_n dX12_put_8 rfl rfl ?_
    refine x_ishr dX12_put_9 ?_
    refine x_sipush (v := 255) dX12_put_10 (by decide) ?_
    refine x_iand dX12_put_13 ?_
    refine x_if_ne (tgt := 20) dX12_put_14 (by decide) (fun h14 => ?_) (fun h14 => ?_)
    · have hi3 : nB v i + 1 ≤ nB v 4 := by
        have hs2 : (if i = 4 then -8 else nI (24 - 8 * i)) = nI (24 - 8 * i) := if_neg (by omega)
        rw [hs2] at h14
        have e : nB v (i + 1) = if (v >>> ((nI (24 - 8 * i)) &&& 31)) &&& 255 = 0 then nB v i else nB v i + 1 := rfl
        rw [if_neg h14] at e
        have hmono : ∀ a b, a ≤ b → nB v a ≤ nB v b := by
          intro a b hab
          induction hab with
          | refl => exact Nat.le_refl _
          | @step b hab ihb =>
            have e2 : nB v (b + 1) = if (v >>> ((nI (24 - 8 * b)) &&& 31)) &&& 255 = 0 then nB v b else nB v b + 1 := rfl
            have : nB v b ≤ nB v (b + 1) := by rw [e2]; split <;> omega
            exact Nat.le_trans ihb this
        have := hmono (i + 1) 4 (by omega)
        omega
      have hin : vp_in ((putS v i σ).1 24) 160 := by rw [hlen i]; exact vp_in_nI (by omega) (by decide)
      refine x_aload_n dX12_put_20 rfl rfl ?_
      refine xm_geta dX12_put_21 lf_X12_49 vma_18 ?_
      refine x_aload_n dX12_put_24 rfl rfl ?_
      refine xm_geti dX12_put_25 lf_X12_178 vmi_24 ?_
      refine x_iload_n dX12_put_28 rfl rfl ?_
      refine x_iload_n dX12_put_29 rfl rfl ?_
      refine x_ishr dX12_put_30 ?_
      refine x_i2b dX12_put_31 ?_
      refine xm_bast 18 dX12_put_32 mf_18 hi hin rfl ?_
      refine x_aload_n dX12_put_33 rfl rfl ?_
      refine x_dup dX12_put_34 rfl ?_
      refine xm_geti dX12_put_35 lf_X12_178 vmi_24 ?_
      refine x_iconst (v := 1) dX12_put_38 (by decide) ?_
      refine x_iadd dX12_put_39 ?_
      refine xm_puti dX12_put_40 lp_X12_178 vmq_24 vmn_24 vmf_24 ?_
      refine x_iinc (c := -8) dX12_put_43 rfl (by decide) ?_
      refine x_goto (tgt := 3) dX12_put_46 (by decide) ?_
      have hs : putS v (i + 1) σ = if (v >>> ((nI (24 - 8 * i)) &&& 31)) &&& 255 = 0 then putS v i σ else seti (seta (putS v i σ) 18 (cn (putS v i σ) 24) ((v >>> ((nI (24 - 8 * i)) &&& 31)).toInt8.toInt32).toInt8.toInt32) 24 ((putS v i σ).1 24 + 1) := rfl
      have hs2 : (if i = 4 then -8 else nI (24 - 8 * i)) = nI (24 - 8 * i) := if_neg (by omega)
      rw [hs2] at h14
      first
      | rw [if_pos (by simpa using h14)] at hs
      | rw [if_neg h14] at hs
      try rw [hs2]
      rw [hs] at ih
      refine x_loc _ (?_ : lle _ _) ih
      refine ⟨rfl, rfl, ?_, trivial⟩
      show some (Value.int _) = some (Value.int (if i + 1 = 4 then -8 else nI (24 - 8 * (i + 1))))
      rw [sh_step hlt]
      by_cases e : i = 3
      · rw [if_pos e, if_pos (by omega)]
      · rw [if_neg e, if_neg (by omega)]
    · refine x_goto (tgt := 43) dX12_put_17 (by decide) ?_
      refine x_iinc (c := -8) dX12_put_43 rfl (by decide) ?_
      refine x_goto (tgt := 3) dX12_put_46 (by decide) ?_
      have hs : putS v (i + 1) σ = if (v >>> ((nI (24 - 8 * i)) &&& 31)) &&& 255 = 0 then putS v i σ else seti (seta (putS v i σ) 18 (cn (putS v i σ) 24) ((v >>> ((nI (24 - 8 * i)) &&& 31)).toInt8.toInt32).toInt8.toInt32) 24 ((putS v i σ).1 24 + 1) := rfl
      have hs2 : (if i = 4 then -8 else nI (24 - 8 * i)) = nI (24 - 8 * i) := if_neg (by omega)
      rw [hs2] at h14
      first
      | rw [if_pos (by simpa using h14)] at hs
      | rw [if_neg h14] at hs
      try rw [hs2]
      rw [hs] at ih
      refine x_loc _ (?_ : lle _ _) ih
      refine ⟨rfl, rfl, ?_, trivial⟩
      show some (Value.int _) = some (Value.int (if i + 1 = 4 then -8 else nI (24 - 8 * (i + 1))))
      rw [sh_step hlt]
      by_cases e : i = 3
      · rw [if_pos e, if_pos (by omega)]
      · rw [if_neg e, if_neg (by omega)]
theorem c_X12_feed {a b c e f : Int32} (hi : adOK ad) (h0 : seti σ 0 0 = σ0) (hc : Cnt σ0) (hq : Q (some (.int (aFeed σ0 a b c e f))) (mm ad (nFeed σ0 a b c e f))) : CT G (d + 1) (0, 0) MX12_feed [.ref (ad 99), .int a, .int b, .int c, .int e, .int f] (mm ad σ) Q := by
  obtain ⟨hl1, hl2⟩ := hc.b 24 (b := 160) (by decide)
  have ha := nB_le a 4
  have hb := nB_le b 4
  have hcc := nB_le c 4
  have he := nB_le e 4
  have hf := nB_le f 4
  have hsum := fedTo_n hl1 a b c e f
  have l1 := putS_len a σ0 hl1 4
  have l2 := putS_len b _ l1 4
  have l3 := putS_len c _ l2 4
  have l4 := putS_len e _ l3 4
  refine CT.of rfl (Nat.le_of_ble_eq_true rfl) ?_
  refine x_aload_n dX12_feed_0 rfl rfl ?_
  refine x_iconst (v := 0) dX12_feed_1 (by decide) ?_
  refine xm_puti dX12_feed_2 lp_X12_138 vmq_0 vmn_0 vmf_0 ?_
  rw [h0]
  refine x_aload_n dX12_feed_5 rfl rfl ?_
  refine xm_geti dX12_feed_6 lf_X12_178 vmi_24 ?_
  refine x_iload_n dX12_feed_9 rfl rfl ?_
  refine x_cS1 dX12_feed_10 ls_X12_181 rfl  (c_X12_bytesIn ?_)
  refine x_iadd dX12_feed_13 ?_
  refine x_iload_n dX12_feed_14 rfl rfl ?_
  refine x_cS1 dX12_feed_15 ls_X12_181 rfl  (c_X12_bytesIn ?_)
  refine x_iadd dX12_feed_18 ?_
  refine x_iload_n dX12_feed_19 rfl rfl ?_
  refine x_cS1 dX12_feed_20 ls_X12_181 rfl  (c_X12_bytesIn ?_)
  refine x_iadd dX12_feed_23 ?_
  refine x_iload dX12_feed_24 rfl ?_
  refine x_cS1 dX12_feed_26 ls_X12_181 rfl  (c_X12_bytesIn ?_)
  refine x_iadd dX12_feed_29 ?_
  refine x_iload dX12_feed_30 rfl ?_
  refine x_cS1 dX12_feed_32 ls_X12_181 rfl  (c_X12_bytesIn ?_)
  refine x_iadd dX12_feed_35 ?_
  refine x_sipush (v := 160) dX12_feed_36 (by decide) ?_
  refine x_icmp_le (tgt := 44) dX12_feed_39 (by decide) (fun h39 => ?_) (fun h39 => ?_)
  · have hfit : cn σ0 24 + nB a 4 + nB b 4 + nB c 4 + nB e 4 + nB f 4 ≤ 160 := by
      have h9 : fedTo σ0 a b c e f ≤ 160 := h39
      rw [hsum] at h9
      exact (nI_leI (by omega) (by decide) (b := 160)).mp h9
    refine x_aload_n dX12_feed_44 rfl rfl ?_
    refine x_iload_n dX12_feed_45 rfl rfl ?_
    refine x_cV1 dX12_feed_46 lv_X12_185 mm_obj rfl rfl rfl  (c_X12_put hi hl1 (by omega) ?_)
    refine x_aload_n dX12_feed_49 rfl rfl ?_
    refine x_iload_n dX12_feed_50 rfl rfl ?_
    refine x_cV1 dX12_feed_51 lv_X12_185 mm_obj rfl rfl rfl  (c_X12_put hi l1 (by omega) ?_)
    refine x_aload_n dX12_feed_54 rfl rfl ?_
    refine x_iload_n dX12_feed_55 rfl rfl ?_
    refine x_cV1 dX12_feed_56 lv_X12_185 mm_obj rfl rfl rfl  (c_X12_put hi l2 (by omega) ?_)
    refine x_aload_n dX12_feed_59 rfl rfl ?_
    refine x_iload dX12_feed_60 rfl ?_
    refine x_cV1 dX12_feed_62 lv_X12_185 mm_obj rfl rfl rfl  (c_X12_put hi l3 (by omega) ?_)
    refine x_aload_n dX12_feed_65 rfl rfl ?_
    refine x_iload dX12_feed_66 rfl ?_
    refine x_cV1 dX12_feed_68 lv_X12_185 mm_obj rfl rfl rfl  (c_X12_put hi l4 (by omega) ?_)
    refine x_aload_n dX12_feed_71 rfl rfl ?_
    refine xm_geti dX12_feed_72 lf_X12_178 vmi_24 ?_
    exact x_ireturn dX12_feed_75 rfl rfl (fin_t (m := mm ad) hq h39 rfl)
  · refine x_iconst (v := -1) dX12_feed_42 (by decide) ?_
    exact x_ireturn dX12_feed_43 rfl rfl (fin_f (m := mm ad) hq (fun z => h39 z))
theorem c_X12_lean {sort q : Int32} (hi : adOK ad) (h0 : seti σ 0 0 = σ0) (hc : Cnt σ0) (hq : Q (some (.int (aLean σ0 sort q))) (mm ad σ0)) : CT G (d + 2) (0, 0) MX12_lean [.ref (ad 99), .int sort, .int q] (mm ad σ) Q := by
  obtain ⟨hp1, hp2⟩ := hc.b 15 (b := 24) (by decide)
  obtain ⟨hl1, hl2⟩ := hc.b 16 (b := 200) (by decide)
  refine CT.of rfl (Nat.le_of_ble_eq_true rfl) ?_
  refine x_aload_n dX12_lean_0 rfl rfl ?_
  refine x_iconst (v := 0) dX12_lean_1 (by decide) ?_
  refine xm_puti dX12_lean_2 lp_X12_138 vmq_0 vmn_0 vmf_0 ?_
  rw [h0]
  refine x_iload_n dX12_lean_5 rfl rfl ?_
  refine x_cS1 dX12_lean_6 ls_X12_168 rfl  (c_X12_isSort ?_)
  refine x_if_eq_b (tgt := 20) dX12_lean_9 (by decide) (fun h9 => ?_) (fun h9 => ?_)
  · refine x_ldcw dX12_lean_20 tb1622 ?_
    exact x_ireturn dX12_lean_23 rfl rfl (fan_f hq (fun z => by first | exact h9 z.1 | exact h17 z.2))
  · refine x_aload_n dX12_lean_12 rfl rfl ?_
    refine x_iload_n dX12_lean_13 rfl rfl ?_
    refine x_cV1 dX12_lean_14 lv_X12_159 mm_obj rfl rfl rfl  (c_X12_isKnown ?_)
    refine x_if_ne_b (tgt := 24) dX12_lean_17 (by decide) (fun h17 => ?_) (fun h17 => ?_)
    · have hq := fan_t hq ⟨h9, h17⟩
      refine x_iconst (v := 0) dX12_lean_24 (by decide) ?_
      refine x_istore_n dX12_lean_25 rfl (by decide) ?_
      refine x_iconst (v := 0) dX12_lean_26 (by decide) ?_
      refine x_istore dX12_lean_27 (by decide) ?_
      refine x_iconst (v := 0) dX12_lean_29 (by decide) ?_
      refine x_istore dX12_lean_30 (by decide) ?_
      refine x_iconst (v := 0) dX12_lean_32 (by decide) ?_
      refine x_istore dX12_lean_33 (by decide) ?_
      refine x_iconst (v := 0) dX12_lean_35 (by decide) ?_
      refine x_istore dX12_lean_36 (by decide) ?_
      refine x_loc [(0, .ref (ad 99)), (1, .int sort), (2, .int q), (3, .int (spLean σ0 sort q 0).1.1), (4, .int (spLean σ0 sort q 0).1.2), (5, .int (spLean σ0 sort q 0).2.1), (6, .int (spLean σ0 sort q 0).2.2), (7, .int (nI 0))] ⟨rfl, rfl, rfl, rfl, rfl, rfl, rfl, rfl, trivial⟩ ?_
      refine loop_up (P := fun i => XJ G (d + 2) (0, 0) MX12_lean (mm ad σ0) [(0, .ref (ad 99)), (1, .int sort), (2, .int q), (3, .int (spLean σ0 sort q i).1.1), (4, .int (spLean σ0 sort q i).1.2), (5, .int (spLean σ0 sort q i).2.1), (6, .int (spLean σ0 sort q i).2.2), (7, .int (nI i))] [] 38 Q) (n := cn σ0 15) ?_ ?_ 0 (Nat.zero_le _)
      · refine x_iload dX12_lean_38 rfl ?_
        refine x_aload_n dX12_lean_40 rfl rfl ?_
        refine xm_geti dX12_lean_41 lf_X12_149 vmi_15 ?_
        refine x_icmp_ge (tgt := 122) dX12_lean_44 (by decide) (fun _ => ?_) (fun z => absurd (loopT hp1) z)
        refine x_iload_n dX12_lean_122 rfl rfl ?_
        refine x_if_eq (tgt := 131) dX12_lean_123 (by decide) (fun h123 => ?_) (fun h123 => ?_)
        · refine x_ldcw dX12_lean_131 tb1622 ?_
          refine x_goto (tgt := 155) dX12_lean_134 (by decide) ?_
          exact x_ireturn dX12_lean_155 rfl rfl (by first | (rw [if_neg (fun z => by rcases z with z | z; exact h123 z; exact h128 z)] at hq; exact hq) | (rw [if_pos (by first | exact Or.inl h123 | exact Or.inr (by simpa using h128))] at hq; exact hq))
        · refine x_iload dX12_lean_126 rfl ?_
          refine x_if_ne (tgt := 137) dX12_lean_128 (by decide) (fun h128 => ?_) (fun h128 => ?_)
          · refine x_sipush (v := 1000) dX12_lean_137 (by decide) ?_
            refine x_iload dX12_lean_140 rfl ?_
            refine x_imul dX12_lean_142 ?_
            refine x_iload_n dX12_lean_143 rfl rfl ?_
            refine x_idiv dX12_lean_144 h123 ?_
            refine x_sipush (v := 1000) dX12_lean_145 (by decide) ?_
            refine x_iload dX12_lean_148 rfl ?_
            refine x_imul dX12_lean_150 ?_
            refine x_iload dX12_lean_151 rfl ?_
            refine x_idiv dX12_lean_153 h128 ?_
            refine x_isub dX12_lean_154 ?_
            exact x_ireturn dX12_lean_155 rfl rfl (by first | (rw [if_neg (fun z => by rcases z with z | z; exact h123 z; exact h128 z)] at hq; exact hq) | (rw [if_pos (by first | exact Or.inl h123 | exact Or.inr (by simpa using h128))] at hq; exact hq))
          · refine x_ldcw dX12_lean_131 tb1622 ?_
            refine x_goto (tgt := 155) dX12_lean_134 (by decide) ?_
            exact x_ireturn dX12_lean_155 rfl rfl (by first | (rw [if_neg (fun z => by rcases z with z | z; exact h123 z; exact h128 z)] at hq; exact hq) | (rw [if_pos (by first | exact Or.inl h123 | exact Or.inr (by simpa using h128))] at hq; exact hq))
      · intro i hlt ih
        refine x_iload dX12_lean_38 rfl ?_
        refine x_aload_n dX12_lean_40 rfl rfl ?_
        refine xm_geti dX12_lean_41 lf_X12_149 vmi_15 ?_
        refine x_icmp_ge (tgt := 122) dX12_lean_44 (by decide) (fun z => absurd z (loopF hp1 hlt (by omega))) (fun _ => ?_)
        refine x_aload_n dX12_lean_47 rfl rfl ?_
        refine x_iload dX12_lean_48 rfl ?_
        refine x_iload_n dX12_lean_50 rfl rfl ?_
        refine x_cV2 dX12_lean_51 lv_X12_363 mm_obj rfl rfl rfl  (c_X12_lastOf hi hc ?_)
        refine x_istore dX12_lean_54 (by decide) ?_
        refine x_iload dX12_lean_56 rfl ?_
        refine x_iconst (v := -1) dX12_lean_58 (by decide) ?_
        refine x_icmp_ne (tgt := 65) dX12_lean_59 (by decide) (fun h59 => ?_) (fun h59 => ?_)
        · have hin : vp_in (spLast σ0 (nI i) q (cn σ0 16)) 200 := by
            rcases spLast_cases (σ := σ0) (p := nI i) (q := q) (cn σ0 16) with h | ⟨j, h1, h2⟩
            · exact absurd h h59
            · rw [h2]; exact vp_in_nI (by omega) (by decide)
          refine x_aload_n dX12_lean_65 rfl rfl ?_
          refine xm_geta dX12_lean_66 lf_X12_34 vma_10 ?_
          refine x_iload dX12_lean_69 rfl ?_
          refine xm_iald 10 dX12_lean_71 mf_10 hi hin rfl ?_
          refine x_iload_n dX12_lean_72 rfl rfl ?_
          refine x_icmp_ne (tgt := 80) dX12_lean_73 (by decide) (fun h73 => ?_) (fun h73 => ?_)
          · refine x_iconst (v := 0) dX12_lean_80 (by decide) ?_
            refine x_istore dX12_lean_81 (by decide) ?_
            refine x_aload_n dX12_lean_83 rfl rfl ?_
            refine x_iload dX12_lean_84 rfl ?_
            refine x_iload_n dX12_lean_86 rfl rfl ?_
            refine x_cV2 dX12_lean_87 lv_X12_366 mm_obj rfl rfl rfl  (c_X12_isStopped hi hc ?_)
            refine x_if_eq_b (tgt := 106) dX12_lean_90 (by decide) (fun h90 => ?_) (fun h90 => ?_)
            · refine x_iinc (c := 1) dX12_lean_106 rfl (by decide) ?_
              refine x_iload dX12_lean_109 rfl ?_
              refine x_iload dX12_lean_111 rfl ?_
              refine x_iadd dX12_lean_113 ?_
              refine x_istore dX12_lean_114 (by decide) ?_
              refine x_iinc (c := 1) dX12_lean_116 rfl (by decide) ?_
              refine x_goto (tgt := 38) dX12_lean_119 (by decide) ?_
              refine x_loc _ (?_ : lle _ _) ih
              have hs : spLean σ0 sort q (i + 1) = if spLast σ0 (nI i) q (cn σ0 16) = -1 then spLean σ0 sort q i else cI (isG σ0 (nI i) q q) (((spLean σ0 sort q i).1.1 + 1, (spLean σ0 sort q i).1.2 + (if σ0.2 10 (spLast σ0 (nI i) q (cn σ0 16)).toNatClampNeg = sort then 1 else 0)), (spLean σ0 sort q i).2) ((spLean σ0 sort q i).1, ((spLean σ0 sort q i).2.1 + 1, (spLean σ0 sort q i).2.2 + (if σ0.2 10 (spLast σ0 (nI i) q (cn σ0 16)).toNatClampNeg = sort then 1 else 0))) := rfl
              first
              | rw [if_pos h59] at hs
              | rw [if_neg h59, cI_t h90, if_pos h73] at hs
              | rw [if_neg h59, cI_t h90, if_neg h73] at hs
              | rw [if_neg h59, cI_f h90, if_pos h73] at hs
              | rw [if_neg h59, cI_f h90, if_neg h73] at hs
              | rw [if_pos (by simpa using h59)] at hs
              rw [hs]
              exact ⟨rfl, rfl, rfl, rfl, rfl, rfl, rfl, congrArg some (congrArg Value.int (nI_1 _)), trivial⟩
            · refine x_iinc (c := 1) dX12_lean_93 rfl (by decide) ?_
              refine x_iload dX12_lean_96 rfl ?_
              refine x_iload dX12_lean_98 rfl ?_
              refine x_iadd dX12_lean_100 ?_
              refine x_istore dX12_lean_101 (by decide) ?_
              refine x_goto (tgt := 116) dX12_lean_103 (by decide) ?_
              refine x_iinc (c := 1) dX12_lean_116 rfl (by decide) ?_
              refine x_goto (tgt := 38) dX12_lean_119 (by decide) ?_
              refine x_loc _ (?_ : lle _ _) ih
              have hs : spLean σ0 sort q (i + 1) = if spLast σ0 (nI i) q (cn σ0 16) = -1 then spLean σ0 sort q i else cI (isG σ0 (nI i) q q) (((spLean σ0 sort q i).1.1 + 1, (spLean σ0 sort q i).1.2 + (if σ0.2 10 (spLast σ0 (nI i) q (cn σ0 16)).toNatClampNeg = sort then 1 else 0)), (spLean σ0 sort q i).2) ((spLean σ0 sort q i).1, ((spLean σ0 sort q i).2.1 + 1, (spLean σ0 sort q i).2.2 + (if σ0.2 10 (spLast σ0 (nI i) q (cn σ0 16)).toNatClampNeg = sort then 1 else 0))) := rfl
              first
              | rw [if_pos h59] at hs
              | rw [if_neg h59, cI_t h90, if_pos h73] at hs
              | rw [if_neg h59, cI_t h90, if_neg h73] at hs
              | rw [if_neg h59, cI_f h90, if_pos h73] at hs
              | rw [if_neg h59, cI_f h90, if_neg h73] at hs
              | rw [if_pos (by simpa using h59)] at hs
              rw [hs]
              exact ⟨rfl, rfl, rfl, rfl, rfl, rfl, rfl, congrArg some (congrArg Value.int (nI_1 _)), trivial⟩
          · refine x_iconst (v := 1) dX12_lean_76 (by decide) ?_
            refine x_goto (tgt := 81) dX12_lean_77 (by decide) ?_
            refine x_istore dX12_lean_81 (by decide) ?_
            refine x_aload_n dX12_lean_83 rfl rfl ?_
            refine x_iload dX12_lean_84 rfl ?_
            refine x_iload_n dX12_lean_86 rfl rfl ?_
            refine x_cV2 dX12_lean_87 lv_X12_366 mm_obj rfl rfl rfl  (c_X12_isStopped hi hc ?_)
            refine x_if_eq_b (tgt := 106) dX12_lean_90 (by decide) (fun h90 => ?_) (fun h90 => ?_)
            · refine x_iinc (c := 1) dX12_lean_106 rfl (by decide) ?_
              refine x_iload dX12_lean_109 rfl ?_
              refine x_iload dX12_lean_111 rfl ?_
              refine x_iadd dX12_lean_113 ?_
              refine x_istore dX12_lean_114 (by decide) ?_
              refine x_iinc (c := 1) dX12_lean_116 rfl (by decide) ?_
              refine x_goto (tgt := 38) dX12_lean_119 (by decide) ?_
              refine x_loc _ (?_ : lle _ _) ih
              have hs : spLean σ0 sort q (i + 1) = if spLast σ0 (nI i) q (cn σ0 16) = -1 then spLean σ0 sort q i else cI (isG σ0 (nI i) q q) (((spLean σ0 sort q i).1.1 + 1, (spLean σ0 sort q i).1.2 + (if σ0.2 10 (spLast σ0 (nI i) q (cn σ0 16)).toNatClampNeg = sort then 1 else 0)), (spLean σ0 sort q i).2) ((spLean σ0 sort q i).1, ((spLean σ0 sort q i).2.1 + 1, (spLean σ0 sort q i).2.2 + (if σ0.2 10 (spLast σ0 (nI i) q (cn σ0 16)).toNatClampNeg = sort then 1 else 0))) := rfl
              first
              | rw [if_pos h59] at hs
              | rw [if_neg h59, cI_t h90, if_pos h73] at hs
              | rw [if_neg h59, cI_t h90, if_neg h73] at hs
              | rw [if_neg h59, cI_f h90, if_pos h73] at hs
              | rw [if_neg h59, cI_f h90, if_neg h73] at hs
              | rw [if_pos (by simpa using h59)] at hs
              rw [hs]
              exact ⟨rfl, rfl, rfl, rfl, rfl, rfl, rfl, congrArg some (congrArg Value.int (nI_1 _)), trivial⟩
            · refine x_iinc (c := 1) dX12_lean_93 rfl (by decide) ?_
              refine x_iload dX12_lean_96 rfl ?_
              refine x_iload dX12_lean_98 rfl ?_
              refine x_iadd dX12_lean_100 ?_
              refine x_istore dX12_lean_101 (by decide) ?_
              refine x_goto (tgt := 116) dX12_lean_103 (by decide) ?_
              refine x_iinc (c := 1) dX12_lean_116 rfl (by decide) ?_
              refine x_goto (tgt := 38) dX12_lean_119 (by decide) ?_
              refine x_loc _ (?_ : lle _ _) ih
              have hs : spLean σ0 sort q (i + 1) = if spLast σ0 (nI i) q (cn σ0 16) = -1 then spLean σ0 sort q i else cI (isG σ0 (nI i) q q) (((spLean σ0 sort q i).1.1 + 1, (spLean σ0 sort q i).1.2 + (if σ0.2 10 (spLast σ0 (nI i) q (cn σ0 16)).toNatClampNeg = sort then 1 else 0)), (spLean σ0 sort q i).2) ((spLean σ0 sort q i).1, ((spLean σ0 sort q i).2.1 + 1, (spLean σ0 sort q i).2.2 + (if σ0.2 10 (spLast σ0 (nI i) q (cn σ0 16)).toNatClampNeg = sort then 1 else 0))) := rfl
              first
              | rw [if_pos h59] at hs
              | rw [if_neg h59, cI_t h90, if_pos h73] at hs
              | rw [if_neg h59, cI_t h90, if_neg h73] at hs
              | rw [if_neg h59, cI_f h90, if_pos h73] at hs
              | rw [if_neg h59, cI_f h90, if_neg h73] at hs
              | rw [if_pos (by simpa using h59)] at hs
              rw [hs]
              exact ⟨rfl, rfl, rfl, rfl, rfl, rfl, rfl, congrArg some (congrArg Value.int (nI_1 _)), trivial⟩
        · refine x_goto (tgt := 116) dX12_lean_62 (by decide) ?_
          refine x_iinc (c := 1) dX12_lean_116 rfl (by decide) ?_
          refine x_goto (tgt := 38) dX12_lean_119 (by decide) ?_
          refine x_loc _ (?_ : lle _ _) ih
          have hs : spLean σ0 sort q (i + 1) = if spLast σ0 (nI i) q (cn σ0 16) = -1 then spLean σ0 sort q i else cI (isG σ0 (nI i) q q) (((spLean σ0 sort q i).1.1 + 1, (spLean σ0 sort q i).1.2 + (if σ0.2 10 (spLast σ0 (nI i) q (cn σ0 16)).toNatClampNeg = sort then 1 else 0)), (spLean σ0 sort q i).2) ((spLean σ0 sort q i).1, ((spLean σ0 sort q i).2.1 + 1, (spLean σ0 sort q i).2.2 + (if σ0.2 10 (spLast σ0 (nI i) q (cn σ0 16)).toNatClampNeg = sort then 1 else 0))) := rfl
          first
          | rw [if_pos h59] at hs
          | rw [if_neg h59, cI_t h90, if_pos h73] at hs
          | rw [if_neg h59, cI_t h90, if_neg h73] at hs
          | rw [if_neg h59, cI_f h90, if_pos h73] at hs
          | rw [if_neg h59, cI_f h90, if_neg h73] at hs
          | rw [if_pos (by simpa using h59)] at hs
          rw [hs]
          exact ⟨rfl, rfl, rfl, rfl, rfl, rfl, rfl, congrArg some (congrArg Value.int (nI_1 _)), trivial⟩
    · refine x_ldcw dX12_lean_20 tb1622 ?_
      exact x_ireturn dX12_lean_23 rfl rfl (fan_f hq (fun z => by first | exact h9 z.1 | exact h17 z.2))
theorem c_X12_count {w : Int32} (hi : adOK ad) (h0 : seti σ 0 0 = σ0) (hc : Cnt σ0) (hq : Q (some (.int (aCount σ0 w))) (mm ad σ0)) : CT G (d + 2) (0, 0) MX12_count [.ref (ad 99), .int w] (mm ad σ) Q := by
  obtain ⟨hp1, hp2⟩ := hc.b 15 (b := 24) (by decide)
  refine CT.of rfl (Nat.le_of_ble_eq_true rfl) ?_
  refine x_aload_n dX12_count_0 rfl rfl ?_
  refine x_iconst (v := 0) dX12_count_1 (by decide) ?_
  refine xm_puti dX12_count_2 lp_X12_138 vmq_0 vmn_0 vmf_0 ?_
  rw [h0]
  refine x_iload_n dX12_count_5 rfl rfl ?_
  skip
  by_cases hw : 0 ≤ w ∧ w ≤ 11
  · obtain ⟨j, hj, rfl⟩ := nI_of2 (M := 11) (n := 11) rfl (Int32.not_lt.mpr hw.1) hw.2
    have hj12 : j = 0 ∨ j = 1 ∨ j = 2 ∨ j = 3 ∨ j = 4 ∨ j = 5 ∨ j = 6 ∨ j = 7 ∨ j = 8 ∨ j = 9 ∨ j = 10 ∨ j = 11 := by omega
    rcases hj12 with rfl | rfl | rfl | rfl | rfl | rfl | rfl | rfl | rfl | rfl | rfl | rfl
    · refine x_tableIn (off := 62) (tgt := 68) dX12_count_6 (by decide) (by decide) (by decide) (by decide) ?_
      refine x_aload_n dX12_count_68 rfl rfl ?_
      refine xm_geti dX12_count_69 lf_X12_142 vmi_1 ?_
      exact x_ireturn dX12_count_72 rfl rfl (hq)
    · refine x_tableIn (off := 67) (tgt := 73) dX12_count_6 (by decide) (by decide) (by decide) (by decide) ?_
      refine x_aload_n dX12_count_73 rfl rfl ?_
      refine xm_geti dX12_count_74 lf_X12_149 vmi_15 ?_
      exact x_ireturn dX12_count_77 rfl rfl (hq)
    · refine x_tableIn (off := 72) (tgt := 78) dX12_count_6 (by decide) (by decide) (by decide) (by decide) ?_
      refine x_aload_n dX12_count_78 rfl rfl ?_
      refine xm_geti dX12_count_79 lf_X12_152 vmi_16 ?_
      exact x_ireturn dX12_count_82 rfl rfl (hq)
    · refine x_tableIn (off := 77) (tgt := 83) dX12_count_6 (by decide) (by decide) (by decide) (by decide) ?_
      refine x_aload_n dX12_count_83 rfl rfl ?_
      refine xm_geti dX12_count_84 lf_X12_289 vmi_25 ?_
      exact x_ireturn dX12_count_87 rfl rfl (hq)
    · refine x_tableIn (off := 82) (tgt := 88) dX12_count_6 (by decide) (by decide) (by decide) (by decide) ?_
      refine x_aload_n dX12_count_88 rfl rfl ?_
      refine xm_geti dX12_count_89 lf_X12_329 vmi_44 ?_
      exact x_ireturn dX12_count_92 rfl rfl (hq)
    · refine x_tableIn (off := 87) (tgt := 93) dX12_count_6 (by decide) (by decide) (by decide) (by decide) ?_
      refine x_aload_n dX12_count_93 rfl rfl ?_
      refine xm_geti dX12_count_94 lf_X12_335 vmi_49 ?_
      exact x_ireturn dX12_count_97 rfl rfl (hq)
    · refine x_tableIn (off := 92) (tgt := 98) dX12_count_6 (by decide) (by decide) (by decide) (by decide) ?_
      refine x_aload_n dX12_count_98 rfl rfl ?_
      refine xm_geti dX12_count_99 lf_X12_369 vmi_59 ?_
      exact x_ireturn dX12_count_102 rfl rfl (hq)
    · refine x_tableIn (off := 97) (tgt := 103) dX12_count_6 (by decide) (by decide) (by decide) (by decide) ?_
      refine x_aload_n dX12_count_103 rfl rfl ?_
      refine xm_geti dX12_count_104 lf_X12_372 vmi_60 ?_
      exact x_ireturn dX12_count_107 rfl rfl (hq)
    · refine x_tableIn (off := 102) (tgt := 108) dX12_count_6 (by decide) (by decide) (by decide) (by decide) ?_
      refine x_aload_n dX12_count_108 rfl rfl ?_
      refine xm_geti dX12_count_109 lf_X12_393 vmi_65 ?_
      exact x_ireturn dX12_count_112 rfl rfl (hq)
    · refine x_tableIn (off := 107) (tgt := 113) dX12_count_6 (by decide) (by decide) (by decide) (by decide) ?_
      refine x_aload_n dX12_count_113 rfl rfl ?_
      refine xm_geti dX12_count_114 lf_X12_178 vmi_24 ?_
      exact x_ireturn dX12_count_117 rfl rfl (hq)
    · refine x_tableIn (off := 112) (tgt := 118) dX12_count_6 (by decide) (by decide) (by decide) (by decide) ?_
      refine x_iconst (v := 0) dX12_count_118 (by decide) ?_
      refine x_istore_n dX12_count_119 rfl (by decide) ?_
      refine x_iconst (v := 0) dX12_count_120 (by decide) ?_
      refine x_istore_n dX12_count_121 rfl (by decide) ?_
      refine x_loc [(0, .ref (ad 99)), (1, .int (nI 10)), (2, .int (spGone σ0 0)), (3, .int (nI 0))] ⟨rfl, rfl, rfl, rfl, trivial⟩ ?_
      refine loop_up (P := fun i => XJ G (d + 2) (0, 0) MX12_count (mm ad σ0) [(0, .ref (ad 99)), (1, .int (nI 10)), (2, .int (spGone σ0 i)), (3, .int (nI i))] [] 122 Q) (n := cn σ0 15) ?_ ?_ 0 (Nat.zero_le _)
      · refine x_iload_n dX12_count_122 rfl rfl ?_
        refine x_aload_n dX12_count_123 rfl rfl ?_
        refine xm_geti dX12_count_124 lf_X12_149 vmi_15 ?_
        refine x_icmp_ge (tgt := 156) dX12_count_127 (by decide) (fun _ => ?_) (fun z => absurd (loopT hp1) z)
        refine x_iload_n dX12_count_156 rfl rfl ?_
        exact x_ireturn dX12_count_157 rfl rfl (hq)
      · intro i hlt ih
        refine x_iload_n dX12_count_122 rfl rfl ?_
        refine x_aload_n dX12_count_123 rfl rfl ?_
        refine xm_geti dX12_count_124 lf_X12_149 vmi_15 ?_
        refine x_icmp_ge (tgt := 156) dX12_count_127 (by decide) (fun z => absurd z (loopF hp1 hlt (by omega))) (fun _ => ?_)
        refine x_iload_n dX12_count_130 rfl rfl ?_
        refine x_aload_n dX12_count_131 rfl rfl ?_
        refine x_iload_n dX12_count_132 rfl rfl ?_
        refine x_aload_n dX12_count_133 rfl rfl ?_
        refine xm_geti dX12_count_134 lf_X12_142 vmi_1 ?_
        refine x_cV2 dX12_count_137 lv_X12_366 mm_obj rfl rfl rfl  (c_X12_isStopped hi hc ?_)
        refine x_if_eq_b (tgt := 147) dX12_count_140 (by decide) (fun h140 => ?_) (fun h140 => ?_)
        · refine x_iconst (v := 0) dX12_count_147 (by decide) ?_
          refine x_iadd dX12_count_148 ?_
          refine x_istore_n dX12_count_149 rfl (by decide) ?_
          refine x_iinc (c := 1) dX12_count_150 rfl (by decide) ?_
          refine x_goto (tgt := 122) dX12_count_153 (by decide) ?_
          refine x_loc _ (?_ : lle _ _) ih
          refine ⟨rfl, rfl, ?_, ?_, trivial⟩
          · show some (Value.int _) = some (Value.int (cI (isG σ0 (nI i) (σ0.1 1) (σ0.1 1)) (spGone σ0 i + 1) (spGone σ0 i)))
            first
            | rw [cI_t h140]
            | rw [cI_f h140, Int32.add_zero]
          · show some (Value.int _) = some (Value.int (nI (i + 1)))
            rw [← nI_1]
        · refine x_iconst (v := 1) dX12_count_143 (by decide) ?_
          refine x_goto (tgt := 148) dX12_count_144 (by decide) ?_
          refine x_iadd dX12_count_148 ?_
          refine x_istore_n dX12_count_149 rfl (by decide) ?_
          refine x_iinc (c := 1) dX12_count_150 rfl (by decide) ?_
          refine x_goto (tgt := 122) dX12_count_153 (by decide) ?_
          refine x_loc _ (?_ : lle _ _) ih
          refine ⟨rfl, rfl, ?_, ?_, trivial⟩
          · show some (Value.int _) = some (Value.int (cI (isG σ0 (nI i) (σ0.1 1) (σ0.1 1)) (spGone σ0 i + 1) (spGone σ0 i)))
            first
            | rw [cI_t h140]
            | rw [cI_f h140, Int32.add_zero]
          · show some (Value.int _) = some (Value.int (nI (i + 1)))
            rw [← nI_1]
    · refine x_tableIn (off := 152) (tgt := 158) dX12_count_6 (by decide) (by decide) (by decide) (by decide) ?_
      refine x_aload_n dX12_count_158 rfl rfl ?_
      refine x_cV0 dX12_count_159 lv_X12_345 mm_obj rfl rfl rfl  (c_X12_people hi ?_)
      exact x_ireturn dX12_count_162 rfl rfl (hq)
  · refine x_tableOut (tgt := 163) dX12_count_6 (by rw [Int32.le_iff_toInt_le, Int32.le_iff_toInt_le] at hw; have e1 : (0 : Int32).toInt = 0 := rfl; have e2 : (11 : Int32).toInt = 11 := rfl; rw [e1, e2] at hw; omega) (by decide) ?_
    have hne : ∀ j, j < 12 → w ≠ nI j := by
      intro j hj e
      refine hw ⟨by rw [e]; exact nI_pos' (by omega), by rw [e]; exact nI_le (b := 11) (by omega) (by decide)⟩
    refine x_iconst (v := -1) dX12_count_163 (by decide) ?_
    exact x_ireturn dX12_count_164 rfl rfl (by
unfold aCount at hq
rw [if_neg (show ¬ w = 0 from hne 0 (by omega)), if_neg (show ¬ w = 1 from hne 1 (by omega)), if_neg (show ¬ w = 2 from hne 2 (by omega)), if_neg (show ¬ w = 3 from hne 3 (by omega)), if_neg (show ¬ w = 4 from hne 4 (by omega)), if_neg (show ¬ w = 5 from hne 5 (by omega)), if_neg (show ¬ w = 6 from hne 6 (by omega)), if_neg (show ¬ w = 7 from hne 7 (by omega)), if_neg (show ¬ w = 8 from hne 8 (by omega)), if_neg (show ¬ w = 9 from hne 9 (by omega)), if_neg (show ¬ w = 10 from hne 10 (by omega)), if_neg (show ¬ w = 11 from hne 11 (by omega))] at hq
exact hq)
theorem c_X12_buy {coin : Int32} (hi : adOK ad) (h0 : seti σ 0 0 = σ0) (hc : Cnt σ0) (hq : Q (some (.int (aBuy σ0 coin))) (mm ad σ0)) : CT G (d + 2) (0, 0) MX12_buy [.ref (ad 99), .int coin] (mm ad σ) Q := by
  obtain ⟨hp1, hp2⟩ := hc.b 65 (b := 8) (by decide)
  have hpow : 2 ^ cn σ0 65 ≤ 256 := Nat.le_trans (Nat.pow_le_pow_right (n := 2) (by decide) hp2) (by decide)
  have hpow1 : 1 ≤ 2 ^ cn σ0 65 := Nat.one_le_two_pow
  have hsh : (1 : Int32) <<< (σ0.1 65 &&& 31) = nI (2 ^ cn σ0 65 - 1 + 1) := by
    rw [hp1, Nat.sub_add_cancel hpow1]
    generalize cn σ0 65 = n at hp2
    have : n = 0 ∨ n = 1 ∨ n = 2 ∨ n = 3 ∨ n = 4 ∨ n = 5 ∨ n = 6 ∨ n = 7 ∨ n = 8 := by omega
    rcases this with rfl | rfl | rfl | rfl | rfl | rfl | rfl | rfl | rfl <;> decide
  refine CT.of rfl (Nat.le_of_ble_eq_true rfl) ?_
  refine x_aload_n dX12_buy_0 rfl rfl ?_
  refine x_iconst (v := 0) dX12_buy_1 (by decide) ?_
  refine xm_puti dX12_buy_2 lp_X12_138 vmq_0 vmn_0 vmf_0 ?_
  rw [h0]
  refine x_iload_n dX12_buy_5 rfl rfl ?_
  refine x_iconst (v := 0) dX12_buy_6 (by decide) ?_
  refine x_sipush (v := 400) dX12_buy_7 (by decide) ?_
  refine x_cS3 dX12_buy_10 ls_X12_145 rfl  (c_X12_isIn ?_)
  refine x_if_ne_b (tgt := 18) dX12_buy_13 (by decide) (fun h13 => ?_) (fun h13 => ?_)
  · have hq := fan_t hq h13
    refine x_iconst (v := 0) dX12_buy_18 (by decide) ?_
    refine x_istore_n dX12_buy_19 rfl (by decide) ?_
    refine x_iconst (v := 1) dX12_buy_20 (by decide) ?_
    refine x_istore_n dX12_buy_21 rfl (by decide) ?_
    refine x_loc [(0, .ref (ad 99)), (1, .int coin), (2, .int (spBuy σ0 coin 0)), (3, .int (nI (0 + 1)))] ⟨rfl, rfl, rfl, rfl, trivial⟩ ?_
    refine loop_up (P := fun i => XJ G (d + 2) (0, 0) MX12_buy (mm ad σ0) [(0, .ref (ad 99)), (1, .int coin), (2, .int (spBuy σ0 coin i)), (3, .int (nI (i + 1)))] [] 22 Q) (n := 2 ^ cn σ0 65 - 1) ?_ ?_ 0 (Nat.zero_le _)
    · refine x_iload_n dX12_buy_22 rfl rfl ?_
      refine x_iconst (v := 1) dX12_buy_23 (by decide) ?_
      refine x_aload_n dX12_buy_24 rfl rfl ?_
      refine xm_geti dX12_buy_25 lf_X12_393 vmi_65 ?_
      refine x_ishl dX12_buy_28 ?_
      refine x_icmp_ge (tgt := 110) dX12_buy_29 (by decide) (fun _ => ?_) (fun z => absurd (by rw [hsh]; exact Int32.le_refl _) z)
      refine x_iload_n dX12_buy_110 rfl rfl ?_
      exact x_ireturn dX12_buy_111 rfl rfl (hq)
    · intro i hlt ih
      refine x_iload_n dX12_buy_22 rfl rfl ?_
      refine x_iconst (v := 1) dX12_buy_23 (by decide) ?_
      refine x_aload_n dX12_buy_24 rfl rfl ?_
      refine xm_geti dX12_buy_25 lf_X12_393 vmi_65 ?_
      refine x_ishl dX12_buy_28 ?_
      refine x_icmp_ge (tgt := 110) dX12_buy_29 (by decide) (fun z => absurd z (by rw [hsh]; exact Int32.not_le.mpr (nI_lt (by omega) (by omega)))) (fun _ => ?_)
      refine x_aload_n dX12_buy_32 rfl rfl ?_
      refine x_iload_n dX12_buy_33 rfl rfl ?_
      refine x_cV1 dX12_buy_34 lv_X12_396 mm_obj rfl rfl rfl  (c_X12_priceOf hi hc ?_)
      refine x_iload_n dX12_buy_37 rfl rfl ?_
      refine x_icmp_le (tgt := 44) dX12_buy_38 (by decide) (fun h38 => ?_) (fun h38 => ?_)
      · refine x_aload_n dX12_buy_44 rfl rfl ?_
        refine x_iload_n dX12_buy_45 rfl rfl ?_
        refine x_cV1 dX12_buy_46 lv_X12_399 mm_obj rfl rfl rfl  (c_X12_sortsOf hi hc ?_)
        refine x_aload_n dX12_buy_49 rfl rfl ?_
        refine x_iload_n dX12_buy_50 rfl rfl ?_
        refine x_cV1 dX12_buy_51 lv_X12_399 mm_obj rfl rfl rfl  (c_X12_sortsOf hi hc ?_)
        refine x_isub dX12_buy_54 ?_
        refine x_istore dX12_buy_55 (by decide) ?_
        refine x_iload dX12_buy_57 rfl ?_
        refine x_if_ne (tgt := 75) dX12_buy_59 (by decide) (fun h59 => ?_) (fun h59 => ?_)
        · refine x_iload_n dX12_buy_75 rfl rfl ?_
          refine x_iload_n dX12_buy_76 rfl rfl ?_
          refine x_ixor dX12_buy_77 ?_
          refine x_iload_n dX12_buy_78 rfl rfl ?_
          refine x_iload_n dX12_buy_79 rfl rfl ?_
          refine x_ixor dX12_buy_80 ?_
          refine x_ineg dX12_buy_81 ?_
          refine x_iand dX12_buy_82 ?_
          refine x_istore dX12_buy_83 (by decide) ?_
          refine x_iload dX12_buy_85 rfl ?_
          refine x_if_gt (tgt := 102) dX12_buy_87 (by decide) (fun h87 => ?_) (fun h87 => ?_)
          · refine x_iload_n dX12_buy_102 rfl rfl ?_
            refine x_istore_n dX12_buy_103 rfl (by decide) ?_
            refine x_iinc (c := 1) dX12_buy_104 rfl (by decide) ?_
            refine x_goto (tgt := 22) dX12_buy_107 (by decide) ?_
            refine x_loc _ (?_ : lle _ _) ih
            refine ⟨rfl, rfl, ?_, congrArg some (congrArg Value.int (nI_1 _)), trivial⟩
            show some (Value.int _) = some (Value.int (cI (spPrice σ0 (nI (i + 1)) (cn σ0 65) ≤ coin ∧ bett σ0 (nI (i + 1)) (spBuy σ0 coin i)) (nI (i + 1)) (spBuy σ0 coin i)))
            first
            | exact absurd h92 h59
            | rw [cI_t (by clear ih hq; unfold bett; grind)]
            | rw [cI_f (by clear ih hq; unfold bett; grind)]
          · refine x_iload dX12_buy_90 rfl ?_
            refine x_if_ne (tgt := 104) dX12_buy_92 (by decide) (fun h92 => ?_) (fun h92 => ?_)
            · refine x_iinc (c := 1) dX12_buy_104 rfl (by decide) ?_
              refine x_goto (tgt := 22) dX12_buy_107 (by decide) ?_
              refine x_loc _ (?_ : lle _ _) ih
              refine ⟨rfl, rfl, ?_, congrArg some (congrArg Value.int (nI_1 _)), trivial⟩
              show some (Value.int _) = some (Value.int (cI (spPrice σ0 (nI (i + 1)) (cn σ0 65) ≤ coin ∧ bett σ0 (nI (i + 1)) (spBuy σ0 coin i)) (nI (i + 1)) (spBuy σ0 coin i)))
              first
              | exact absurd h92 h59
              | rw [cI_t (by clear ih hq; unfold bett; grind)]
              | rw [cI_f (by clear ih hq; unfold bett; grind)]
            · refine x_iload_n dX12_buy_95 rfl rfl ?_
              refine x_iload dX12_buy_96 rfl ?_
              refine x_iand dX12_buy_98 ?_
              refine x_if_eq (tgt := 104) dX12_buy_99 (by decide) (fun h99 => ?_) (fun h99 => ?_)
              · refine x_iinc (c := 1) dX12_buy_104 rfl (by decide) ?_
                refine x_goto (tgt := 22) dX12_buy_107 (by decide) ?_
                refine x_loc _ (?_ : lle _ _) ih
                refine ⟨rfl, rfl, ?_, congrArg some (congrArg Value.int (nI_1 _)), trivial⟩
                show some (Value.int _) = some (Value.int (cI (spPrice σ0 (nI (i + 1)) (cn σ0 65) ≤ coin ∧ bett σ0 (nI (i + 1)) (spBuy σ0 coin i)) (nI (i + 1)) (spBuy σ0 coin i)))
                first
                | exact absurd h92 h59
                | rw [cI_t (by clear ih hq; unfold bett; grind)]
                | rw [cI_f (by clear ih hq; unfold bett; grind)]
              · refine x_iload_n dX12_buy_102 rfl rfl ?_
                refine x_istore_n dX12_buy_103 rfl (by decide) ?_
                refine x_iinc (c := 1) dX12_buy_104 rfl (by decide) ?_
                refine x_goto (tgt := 22) dX12_buy_107 (by decide) ?_
                refine x_loc _ (?_ : lle _ _) ih
                refine ⟨rfl, rfl, ?_, congrArg some (congrArg Value.int (nI_1 _)), trivial⟩
                show some (Value.int _) = some (Value.int (cI (spPrice σ0 (nI (i + 1)) (cn σ0 65) ≤ coin ∧ bett σ0 (nI (i + 1)) (spBuy σ0 coin i)) (nI (i + 1)) (spBuy σ0 coin i)))
                first
                | exact absurd h92 h59
                | rw [cI_t (by clear ih hq; unfold bett; grind)]
                | rw [cI_f (by clear ih hq; unfold bett; grind)]
        · refine x_aload_n dX12_buy_62 rfl rfl ?_
          refine x_iload_n dX12_buy_63 rfl rfl ?_
          refine x_cV1 dX12_buy_64 lv_X12_396 mm_obj rfl rfl rfl  (c_X12_priceOf hi hc ?_)
          refine x_aload_n dX12_buy_67 rfl rfl ?_
          refine x_iload_n dX12_buy_68 rfl rfl ?_
          refine x_cV1 dX12_buy_69 lv_X12_396 mm_obj rfl rfl rfl  (c_X12_priceOf hi hc ?_)
          refine x_isub dX12_buy_72 ?_
          refine x_istore dX12_buy_73 (by decide) ?_
          refine x_iload_n dX12_buy_75 rfl rfl ?_
          refine x_iload_n dX12_buy_76 rfl rfl ?_
          refine x_ixor dX12_buy_77 ?_
          refine x_iload_n dX12_buy_78 rfl rfl ?_
          refine x_iload_n dX12_buy_79 rfl rfl ?_
          refine x_ixor dX12_buy_80 ?_
          refine x_ineg dX12_buy_81 ?_
          refine x_iand dX12_buy_82 ?_
          refine x_istore dX12_buy_83 (by decide) ?_
          refine x_iload dX12_buy_85 rfl ?_
          refine x_if_gt (tgt := 102) dX12_buy_87 (by decide) (fun h87 => ?_) (fun h87 => ?_)
          · refine x_iload_n dX12_buy_102 rfl rfl ?_
            refine x_istore_n dX12_buy_103 rfl (by decide) ?_
            refine x_iinc (c := 1) dX12_buy_104 rfl (by decide) ?_
            refine x_goto (tgt := 22) dX12_buy_107 (by decide) ?_
            refine x_loc _ (?_ : lle _ _) ih
            refine ⟨rfl, rfl, ?_, congrArg some (congrArg Value.int (nI_1 _)), trivial⟩
            show some (Value.int _) = some (Value.int (cI (spPrice σ0 (nI (i + 1)) (cn σ0 65) ≤ coin ∧ bett σ0 (nI (i + 1)) (spBuy σ0 coin i)) (nI (i + 1)) (spBuy σ0 coin i)))
            first
            | exact absurd h92 h59
            | rw [cI_t (by clear ih hq; unfold bett; grind)]
            | rw [cI_f (by clear ih hq; unfold bett; grind)]
          · refine x_iload dX12_buy_90 rfl ?_
            refine x_if_ne (tgt := 104) dX12_buy_92 (by decide) (fun h92 => ?_) (fun h92 => ?_)
            · refine x_iinc (c := 1) dX12_buy_104 rfl (by decide) ?_
              refine x_goto (tgt := 22) dX12_buy_107 (by decide) ?_
              refine x_loc _ (?_ : lle _ _) ih
              refine ⟨rfl, rfl, ?_, congrArg some (congrArg Value.int (nI_1 _)), trivial⟩
              show some (Value.int _) = some (Value.int (cI (spPrice σ0 (nI (i + 1)) (cn σ0 65) ≤ coin ∧ bett σ0 (nI (i + 1)) (spBuy σ0 coin i)) (nI (i + 1)) (spBuy σ0 coin i)))
              first
              | exact absurd h92 h59
              | rw [cI_t (by clear ih hq; unfold bett; grind)]
              | rw [cI_f (by clear ih hq; unfold bett; grind)]
            · refine x_iload_n dX12_buy_95 rfl rfl ?_
              refine x_iload dX12_buy_96 rfl ?_
              refine x_iand dX12_buy_98 ?_
              refine x_if_eq (tgt := 104) dX12_buy_99 (by decide) (fun h99 => ?_) (fun h99 => ?_)
              · refine x_iinc (c := 1) dX12_buy_104 rfl (by decide) ?_
                refine x_goto (tgt := 22) dX12_buy_107 (by decide) ?_
                refine x_loc _ (?_ : lle _ _) ih
                refine ⟨rfl, rfl, ?_, congrArg some (congrArg Value.int (nI_1 _)), trivial⟩
                show some (Value.int _) = some (Value.int (cI (spPrice σ0 (nI (i + 1)) (cn σ0 65) ≤ coin ∧ bett σ0 (nI (i + 1)) (spBuy σ0 coin i)) (nI (i + 1)) (spBuy σ0 coin i)))
                first
                | exact absurd h92 h59
                | rw [cI_t (by clear ih hq; unfold bett; grind)]
                | rw [cI_f (by clear ih hq; unfold bett; grind)]
              · refine x_iload_n dX12_buy_102 rfl rfl ?_
                refine x_istore_n dX12_buy_103 rfl (by decide) ?_
                refine x_iinc (c := 1) dX12_buy_104 rfl (by decide) ?_
                refine x_goto (tgt := 22) dX12_buy_107 (by decide) ?_
                refine x_loc _ (?_ : lle _ _) ih
                refine ⟨rfl, rfl, ?_, congrArg some (congrArg Value.int (nI_1 _)), trivial⟩
                show some (Value.int _) = some (Value.int (cI (spPrice σ0 (nI (i + 1)) (cn σ0 65) ≤ coin ∧ bett σ0 (nI (i + 1)) (spBuy σ0 coin i)) (nI (i + 1)) (spBuy σ0 coin i)))
                first
                | exact absurd h92 h59
                | rw [cI_t (by clear ih hq; unfold bett; grind)]
                | rw [cI_f (by clear ih hq; unfold bett; grind)]
      · refine x_goto (tgt := 104) dX12_buy_41 (by decide) ?_
        refine x_iinc (c := 1) dX12_buy_104 rfl (by decide) ?_
        refine x_goto (tgt := 22) dX12_buy_107 (by decide) ?_
        refine x_loc _ (?_ : lle _ _) ih
        refine ⟨rfl, rfl, ?_, congrArg some (congrArg Value.int (nI_1 _)), trivial⟩
        show some (Value.int _) = some (Value.int (cI (spPrice σ0 (nI (i + 1)) (cn σ0 65) ≤ coin ∧ bett σ0 (nI (i + 1)) (spBuy σ0 coin i)) (nI (i + 1)) (spBuy σ0 coin i)))
        first
        | exact absurd h92 h59
        | rw [cI_t (by clear ih hq; unfold bett; grind)]
        | rw [cI_f (by clear ih hq; unfold bett; grind)]
  · refine x_iconst (v := -1) dX12_buy_16 (by decide) ?_
    exact x_ireturn dX12_buy_17 rfl rfl (fan_f hq h13)
theorem c_X12_hide {m : Int32} (hi : adOK ad) (h0 : seti σ 0 0 = σ0) (hc : Cnt σ0) (hq : Q (some (.int (aHide σ0 m))) (mm ad σ0)) : CT G (d + 2) (0, 0) MX12_hide [.ref (ad 99), .int m] (mm ad σ) Q := by
  obtain ⟨hp1, hp2⟩ := hc.b 15 (b := 24) (by decide)
  refine CT.of rfl (Nat.le_of_ble_eq_true rfl) ?_
  refine x_aload_n dX12_hide_0 rfl rfl ?_
  refine x_iconst (v := 0) dX12_hide_1 (by decide) ?_
  refine xm_puti dX12_hide_2 lp_X12_138 vmq_0 vmn_0 vmf_0 ?_
  rw [h0]
  refine x_iload_n dX12_hide_5 rfl rfl ?_
  refine x_iconst (v := 1) dX12_hide_6 (by decide) ?_
  refine x_icmp_ge (tgt := 12) dX12_hide_7 (by decide) (fun h7 => ?_) (fun h7 => ?_)
  · have hq := fan_t hq h7
    refine x_iconst (v := -1) dX12_hide_12 (by decide) ?_
    refine x_istore_n dX12_hide_13 rfl (by decide) ?_
    refine x_iconst (v := 0) dX12_hide_14 (by decide) ?_
    refine x_istore_n dX12_hide_15 rfl (by decide) ?_
    refine x_loc [(0, .ref (ad 99)), (1, .int m), (2, .int (spHide σ0 m 0)), (3, .int (nI 0))] ⟨rfl, rfl, rfl, rfl, trivial⟩ ?_
    refine loop_up (P := fun i => XJ G (d + 2) (0, 0) MX12_hide (mm ad σ0) [(0, .ref (ad 99)), (1, .int m), (2, .int (spHide σ0 m i)), (3, .int (nI i))] [] 16 Q) (n := 8) ?_ ?_ 0 (Nat.zero_le _)
    · refine x_iload_n dX12_hide_16 rfl rfl ?_
      refine x_bipush (v := 8) dX12_hide_17 (by decide) ?_
      refine x_icmp_ge (tgt := 100) dX12_hide_19 (by decide) (fun _ => ?_) (fun z => absurd (loopT (show (8 : Int32) = nI 8 from rfl)) z)
      refine x_iload_n dX12_hide_100 rfl rfl ?_
      exact x_ireturn dX12_hide_101 rfl rfl (hq)
    · intro i hlt ih
      refine x_iload_n dX12_hide_16 rfl rfl ?_
      refine x_bipush (v := 8) dX12_hide_17 (by decide) ?_
      refine x_icmp_ge (tgt := 100) dX12_hide_19 (by decide) (fun z => absurd z (loopF (show (8 : Int32) = nI 8 from rfl) hlt (by omega))) (fun _ => ?_)
      refine x_iconst (v := 1) dX12_hide_22 (by decide) ?_
      refine x_istore dX12_hide_23 (by decide) ?_
      refine x_iconst (v := 0) dX12_hide_25 (by decide) ?_
      refine x_istore dX12_hide_26 (by decide) ?_
      refine x_loc [(0, .ref (ad 99)), (1, .int m), (2, .int (spHide σ0 m i)), (3, .int (nI i)), (4, .int (bI (allA σ0 m (7 &&& (nI i ^^^ -1)) 0))), (5, .int (nI 0))] ⟨rfl, rfl, rfl, rfl, congrArg some (congrArg Value.int (bI_t (fun p hp => absurd hp (Nat.not_lt_zero _))).symm), rfl, trivial⟩ ?_
      refine loop_up (P := fun j => XJ G (d + 2) (0, 0) MX12_hide (mm ad σ0) [(0, .ref (ad 99)), (1, .int m), (2, .int (spHide σ0 m i)), (3, .int (nI i)), (4, .int (bI (allA σ0 m (7 &&& (nI i ^^^ -1)) j))), (5, .int (nI j))] [] 28 Q) (n := cn σ0 15) ?_ ?_ 0 (Nat.zero_le _)
      · refine x_iload dX12_hide_28 rfl ?_
        refine x_aload_n dX12_hide_30 rfl rfl ?_
        refine xm_geti dX12_hide_31 lf_X12_149 vmi_15 ?_
        refine x_icmp_ge (tgt := 71) dX12_hide_34 (by decide) (fun _ => ?_) (fun z => absurd (loopT hp1) z)
        refine x_iload dX12_hide_71 rfl ?_
        refine x_if_eq_b (tgt := 94) dX12_hide_73 (by decide) (fun h73 => ?_) (fun h73 => ?_)
        · refine x_iinc (c := 1) dX12_hide_94 rfl (by decide) ?_
          refine x_goto (tgt := 16) dX12_hide_97 (by decide) ?_
          refine x_loc _ (?_ : lle _ _) ih
          refine ⟨rfl, rfl, ?_, congrArg some (congrArg Value.int (nI_1 _)), trivial⟩
          show some (Value.int _) = some (Value.int (cI (allA σ0 m (7 &&& (nI i ^^^ -1)) (cn σ0 15) ∧ (spHide σ0 m i = -1 ∨ bitc (nI i) < bitc (spHide σ0 m i))) (nI i) (spHide σ0 m i)))
          first
          | rw [cI_t (by clear ih hq; grind)]
          | rw [cI_f (by clear ih hq; grind)]
        · refine x_iload_n dX12_hide_76 rfl rfl ?_
          refine x_iconst (v := -1) dX12_hide_77 (by decide) ?_
          refine x_icmp_eq (tgt := 92) dX12_hide_78 (by decide) (fun h78 => ?_) (fun h78 => ?_)
          · refine x_iload_n dX12_hide_92 rfl rfl ?_
            refine x_istore_n dX12_hide_93 rfl (by decide) ?_
            refine x_iinc (c := 1) dX12_hide_94 rfl (by decide) ?_
            refine x_goto (tgt := 16) dX12_hide_97 (by decide) ?_
            refine x_loc _ (?_ : lle _ _) ih
            refine ⟨rfl, rfl, ?_, congrArg some (congrArg Value.int (nI_1 _)), trivial⟩
            show some (Value.int _) = some (Value.int (cI (allA σ0 m (7 &&& (nI i ^^^ -1)) (cn σ0 15) ∧ (spHide σ0 m i = -1 ∨ bitc (nI i) < bitc (spHide σ0 m i))) (nI i) (spHide σ0 m i)))
            first
            | rw [cI_t (by clear ih hq; grind)]
            | rw [cI_f (by clear ih hq; grind)]
          · refine x_iload_n dX12_hide_81 rfl rfl ?_
            refine x_cS1 dX12_hide_82 ls_X12_388 rfl  (c_J6_bitCount_0f7a4 ?_)
            refine x_iload_n dX12_hide_85 rfl rfl ?_
            refine x_cS1 dX12_hide_86 ls_X12_388 rfl  (c_J6_bitCount_0f7a4 ?_)
            refine x_icmp_ge (tgt := 94) dX12_hide_89 (by decide) (fun h89 => ?_) (fun h89 => ?_)
            · refine x_iinc (c := 1) dX12_hide_94 rfl (by decide) ?_
              refine x_goto (tgt := 16) dX12_hide_97 (by decide) ?_
              refine x_loc _ (?_ : lle _ _) ih
              refine ⟨rfl, rfl, ?_, congrArg some (congrArg Value.int (nI_1 _)), trivial⟩
              show some (Value.int _) = some (Value.int (cI (allA σ0 m (7 &&& (nI i ^^^ -1)) (cn σ0 15) ∧ (spHide σ0 m i = -1 ∨ bitc (nI i) < bitc (spHide σ0 m i))) (nI i) (spHide σ0 m i)))
              first
              | rw [cI_t (by clear ih hq; grind)]
              | rw [cI_f (by clear ih hq; grind)]
            · refine x_iload_n dX12_hide_92 rfl rfl ?_
              refine x_istore_n dX12_hide_93 rfl (by decide) ?_
              refine x_iinc (c := 1) dX12_hide_94 rfl (by decide) ?_
              refine x_goto (tgt := 16) dX12_hide_97 (by decide) ?_
              refine x_loc _ (?_ : lle _ _) ih
              refine ⟨rfl, rfl, ?_, congrArg some (congrArg Value.int (nI_1 _)), trivial⟩
              show some (Value.int _) = some (Value.int (cI (allA σ0 m (7 &&& (nI i ^^^ -1)) (cn σ0 15) ∧ (spHide σ0 m i = -1 ∨ bitc (nI i) < bitc (spHide σ0 m i))) (nI i) (spHide σ0 m i)))
              first
              | rw [cI_t (by clear ih hq; grind)]
              | rw [cI_f (by clear ih hq; grind)]
      · intro j hltj ihj
        refine x_iload dX12_hide_28 rfl ?_
        refine x_aload_n dX12_hide_30 rfl rfl ?_
        refine xm_geti dX12_hide_31 lf_X12_149 vmi_15 ?_
        refine x_icmp_ge (tgt := 71) dX12_hide_34 (by decide) (fun z => absurd z (loopF hp1 hltj (by omega))) (fun _ => ?_)
        refine x_iload dX12_hide_37 rfl ?_
        refine x_if_eq_b (tgt := 62) dX12_hide_39 (by decide) (fun h39 => ?_) (fun h39 => ?_)
        · refine x_iconst (v := 0) dX12_hide_62 (by decide) ?_
          refine x_istore dX12_hide_63 (by decide) ?_
          refine x_iinc (c := 1) dX12_hide_65 rfl (by decide) ?_
          refine x_goto (tgt := 28) dX12_hide_68 (by decide) ?_
          refine x_loc _ (?_ : lle _ _) ihj
          refine ⟨rfl, rfl, rfl, rfl, ?_, ?_, trivial⟩
          · show some (Value.int _) = some (Value.int (bI (allA σ0 m (7 &&& (nI i ^^^ -1)) (j + 1))))
            first
            | rw [bI_f (fun z => h39 (fun p hp => z p (by omega)))]
            | rw [bI_f (fun z => absurd h55 (Int32.not_lt.mpr (z j (by omega))))]
            | rw [bI_t (show allA σ0 m (7 &&& (nI i ^^^ -1)) (j + 1) from fun p hp => (Nat.lt_succ_iff_lt_or_eq.mp hp).elim (fun h => h39 p h) (fun h => by rw [h]; exact Int32.not_lt.mp h55))]
          · show some (Value.int _) = some (Value.int (nI (j + 1)))
            rw [← nI_1]
        · refine x_aload_n dX12_hide_42 rfl rfl ?_
          refine x_iload dX12_hide_43 rfl ?_
          refine x_bipush (v := 7) dX12_hide_45 (by decide) ?_
          refine x_iload_n dX12_hide_47 rfl rfl ?_
          refine x_iconst (v := -1) dX12_hide_48 (by decide) ?_
          refine x_ixor dX12_hide_49 ?_
          refine x_iand dX12_hide_50 ?_
          refine x_cV2 dX12_hide_51 lv_X12_385 mm_obj rfl rfl rfl  (c_X12_alikeOf hi hc rfl hltj ?_)
          refine x_iload_n dX12_hide_54 rfl rfl ?_
          refine x_icmp_lt (tgt := 62) dX12_hide_55 (by decide) (fun h55 => ?_) (fun h55 => ?_)
          · refine x_iconst (v := 0) dX12_hide_62 (by decide) ?_
            refine x_istore dX12_hide_63 (by decide) ?_
            refine x_iinc (c := 1) dX12_hide_65 rfl (by decide) ?_
            refine x_goto (tgt := 28) dX12_hide_68 (by decide) ?_
            refine x_loc _ (?_ : lle _ _) ihj
            refine ⟨rfl, rfl, rfl, rfl, ?_, ?_, trivial⟩
            · show some (Value.int _) = some (Value.int (bI (allA σ0 m (7 &&& (nI i ^^^ -1)) (j + 1))))
              first
              | rw [bI_f (fun z => h39 (fun p hp => z p (by omega)))]
              | rw [bI_f (fun z => absurd h55 (Int32.not_lt.mpr (z j (by omega))))]
              | rw [bI_t (show allA σ0 m (7 &&& (nI i ^^^ -1)) (j + 1) from fun p hp => (Nat.lt_succ_iff_lt_or_eq.mp hp).elim (fun h => h39 p h) (fun h => by rw [h]; exact Int32.not_lt.mp h55))]
            · show some (Value.int _) = some (Value.int (nI (j + 1)))
              rw [← nI_1]
          · refine x_iconst (v := 1) dX12_hide_58 (by decide) ?_
            refine x_goto (tgt := 63) dX12_hide_59 (by decide) ?_
            refine x_istore dX12_hide_63 (by decide) ?_
            refine x_iinc (c := 1) dX12_hide_65 rfl (by decide) ?_
            refine x_goto (tgt := 28) dX12_hide_68 (by decide) ?_
            refine x_loc _ (?_ : lle _ _) ihj
            refine ⟨rfl, rfl, rfl, rfl, ?_, ?_, trivial⟩
            · show some (Value.int _) = some (Value.int (bI (allA σ0 m (7 &&& (nI i ^^^ -1)) (j + 1))))
              first
              | rw [bI_f (fun z => h39 (fun p hp => z p (by omega)))]
              | rw [bI_f (fun z => absurd h55 (Int32.not_lt.mpr (z j (by omega))))]
              | rw [bI_t (show allA σ0 m (7 &&& (nI i ^^^ -1)) (j + 1) from fun p hp => (Nat.lt_succ_iff_lt_or_eq.mp hp).elim (fun h => h39 p h) (fun h => by rw [h]; exact Int32.not_lt.mp h55))]
            · show some (Value.int _) = some (Value.int (nI (j + 1)))
              rw [← nI_1]
  · refine x_iconst (v := -1) dX12_hide_10 (by decide) ?_
    exact x_ireturn dX12_hide_11 rfl rfl (fan_f hq h7)
end MDD
end
section
/-! the model's methods, 5: the table of watchers -/
section MDE
variable {G : Gam} {d : Nat} {k : Nat × Nat} {ad : Nat → Nat} {σ σ0 : MS} {M : Mem} {Q : Option Value → Mem → Prop}
theorem c_X12_maySee {w one : Nat} {t : TT} (hi : adOK ad) (hc : Cnt σ) (hw : w < cn σ 59) (ho : one < cn σ 60) (hq : Q (some (.int (bI (mayS σ t.1 w one)))) (mm ad (wT σ t))) : CT G (d + 1) (0, 0) MX12_maySee [.ref (ad 99), .int (nI w), .int (nI one)] (mm ad (wT σ t)) Q := by
  obtain ⟨hw1, hw2⟩ := hc.b 59 (b := 4) (by decide)
  obtain ⟨ho1, ho2⟩ := hc.b 60 (b := 8) (by decide)
  have hinw : vp_in (nI w) 4 := vp_in_nI (by omega) (by decide)
  have hclw : (nI w).toNatClampNeg = w := nI_clamp (by omega)
  have hino : vp_in (nI one) 8 := vp_in_nI (by omega) (by decide)
  have hclo : (nI one).toNatClampNeg = one := nI_clamp (by omega)
  have hk : (∀ k, k < one → ¬ (t.1 k = nI w ∧ clash σ one k)) → (σ.2 53 w ≤ σ.2 56 one ∧ σ.2 56 one ≤ σ.2 54 w) → bI (mayS σ t.1 w one) = 1 := fun h1 h2 => bI_t ⟨h2, h1⟩
  refine CT.of rfl (Nat.le_of_ble_eq_true rfl) ?_
  refine x_aload_n dX12_maySee_0 rfl rfl ?_
  refine xm_geta dX12_maySee_1 lf_X12_120 vma_56 ?_
  refine x_iload_n dX12_maySee_4 rfl rfl ?_
  refine xm_iald 56 dX12_maySee_5 mf_56 hi hino hclo ?_
  refine x_aload_n dX12_maySee_6 rfl rfl ?_
  refine xm_geta dX12_maySee_7 lf_X12_111 vma_53 ?_
  refine x_iload_n dX12_maySee_10 rfl rfl ?_
  refine xm_iald 53 dX12_maySee_11 mf_53 hi hinw hclw ?_
  refine x_aload_n dX12_maySee_12 rfl rfl ?_
  refine xm_geta dX12_maySee_13 lf_X12_114 vma_54 ?_
  refine x_iload_n dX12_maySee_16 rfl rfl ?_
  refine xm_iald 54 dX12_maySee_17 mf_54 hi hinw hclw ?_
  refine x_cS3 dX12_maySee_18 ls_X12_145 rfl  (c_X12_isIn ?_)
  refine x_if_ne_b (tgt := 26) dX12_maySee_21 (by decide) (fun h21 => ?_) (fun h21 => ?_)
  · refine x_iconst (v := 0) dX12_maySee_26 (by decide) ?_
    refine x_istore_n dX12_maySee_27 rfl (by decide) ?_
    have hgoal : ∀ i, i ≤ one → (∀ k, k < i → ¬ (t.1 k = nI w ∧ clash σ one k)) → XJ G (d + 1) (0, 0) MX12_maySee (mm ad (wT σ t)) [(0, .ref (ad 99)), (1, .int (nI w)), (2, .int (nI one)), (3, .int (nI i))] [] 28 Q := by
      refine loop_up (P := fun i => (∀ k, k < i → ¬ (t.1 k = nI w ∧ clash σ one k)) → XJ G (d + 1) (0, 0) MX12_maySee (mm ad (wT σ t)) [(0, .ref (ad 99)), (1, .int (nI w)), (2, .int (nI one)), (3, .int (nI i))] [] 28 Q) ?_ ?_
      · intro hall
        refine x_iload_n dX12_maySee_28 rfl rfl ?_
        refine x_iload_n dX12_maySee_29 rfl rfl ?_
        refine x_icmp_ge (tgt := 95) dX12_maySee_30 (by decide) (fun _ => ?_) (fun z => absurd (Int32.le_refl _) z)
        refine x_iconst (v := 1) dX12_maySee_95 (by decide) ?_
        exact x_ireturn dX12_maySee_96 rfl rfl (fin hq (hk hall h21))
      · intro i hlt ih hall
        have hin : vp_in (nI i) 8 := vp_in_nI (by omega) (by decide)
        have hcl : (nI i).toNatClampNeg = i := nI_clamp (by omega)
        refine x_iload_n dX12_maySee_28 rfl rfl ?_
        refine x_iload_n dX12_maySee_29 rfl rfl ?_
        refine x_icmp_ge (tgt := 95) dX12_maySee_30 (by decide) (fun z => absurd z (Int32.not_le.mpr (nI_lt hlt (by omega)))) (fun _ => ?_)
        refine x_aload_n dX12_maySee_33 rfl rfl ?_
        refine xm_geta dX12_maySee_34 lf_X12_120 vma_56 ?_
        refine x_iload_n dX12_maySee_37 rfl rfl ?_
        refine xm_iald 56 dX12_maySee_38 mf_56 hi hino hclo ?_
        refine x_aload_n dX12_maySee_39 rfl rfl ?_
        refine xm_geta dX12_maySee_40 lf_X12_120 vma_56 ?_
        refine x_iload_n dX12_maySee_43 rfl rfl ?_
        refine xm_iald 56 dX12_maySee_44 mf_56 hi hin hcl ?_
        refine x_isub dX12_maySee_45 ?_
        refine x_cS1 dX12_maySee_46 ls_X12_323 rfl  (c_J9_abs_0f7a4 ?_)
        refine x_istore dX12_maySee_49 (by decide) ?_
        refine x_aload_n dX12_maySee_51 rfl rfl ?_
        refine xm_geta dX12_maySee_52 lf_X12_123 vma_57 ?_
        refine x_iload_n dX12_maySee_55 rfl rfl ?_
        refine xm_iald 57 dX12_maySee_56 mf_57 hi hin hcl ?_
        refine x_iload_n dX12_maySee_57 rfl rfl ?_
        refine x_icmp_ne (tgt := 89) dX12_maySee_58 (by decide) (fun h58 => ?_) (fun h58 => ?_)
        · refine x_iinc (c := 1) dX12_maySee_89 rfl (by decide) ?_
          refine x_goto (tgt := 28) dX12_maySee_92 (by decide) ?_
          refine x_loc _ (?_ : lle _ _) (ih (fun k hk2 => (Nat.lt_succ_iff_lt_or_eq.mp hk2).elim (hall k) (fun e => ?_)))
          · exact ⟨rfl, rfl, rfl, congrArg some (congrArg Value.int (nI_1 _)), trivial⟩
          · subst e
            rintro ⟨z1, z2⟩
            first
            | exact h58 z1
            | (rcases z2 with z2 | z2
               · exact h63 z2
               · first
                 | exact absurd z2.1 (Int32.not_lt.mpr h69)
                 | exact z2.2 h84)
        · refine x_iload dX12_maySee_61 rfl ?_
          refine x_if_eq (tgt := 87) dX12_maySee_63 (by decide) (fun h63 => ?_) (fun h63 => ?_)
          · refine x_iconst (v := 0) dX12_maySee_87 (by decide) ?_
            exact x_ireturn dX12_maySee_88 rfl rfl (fin hq (bI_f (fun z => z.2 i hlt ⟨h58, by first | exact Or.inl h63 | exact Or.inr ⟨Int32.not_le.mp h69, h84⟩⟩)))
          · refine x_iload dX12_maySee_66 rfl ?_
            refine x_iconst (v := 2) dX12_maySee_68 (by decide) ?_
            refine x_icmp_ge (tgt := 89) dX12_maySee_69 (by decide) (fun h69 => ?_) (fun h69 => ?_)
            · refine x_iinc (c := 1) dX12_maySee_89 rfl (by decide) ?_
              refine x_goto (tgt := 28) dX12_maySee_92 (by decide) ?_
              refine x_loc _ (?_ : lle _ _) (ih (fun k hk2 => (Nat.lt_succ_iff_lt_or_eq.mp hk2).elim (hall k) (fun e => ?_)))
              · exact ⟨rfl, rfl, rfl, congrArg some (congrArg Value.int (nI_1 _)), trivial⟩
              · subst e
                rintro ⟨z1, z2⟩
                first
                | exact h58 z1
                | (rcases z2 with z2 | z2
                   · exact h63 z2
                   · first
                     | exact absurd z2.1 (Int32.not_lt.mpr h69)
                     | exact z2.2 h84)
            · refine x_aload_n dX12_maySee_72 rfl rfl ?_
              refine xm_geta dX12_maySee_73 lf_X12_117 vma_55 ?_
              refine x_iload_n dX12_maySee_76 rfl rfl ?_
              refine xm_iald 55 dX12_maySee_77 mf_55 hi hino hclo ?_
              refine x_aload_n dX12_maySee_78 rfl rfl ?_
              refine xm_geta dX12_maySee_79 lf_X12_117 vma_55 ?_
              refine x_iload_n dX12_maySee_82 rfl rfl ?_
              refine xm_iald 55 dX12_maySee_83 mf_55 hi hin hcl ?_
              refine x_icmp_eq (tgt := 89) dX12_maySee_84 (by decide) (fun h84 => ?_) (fun h84 => ?_)
              · refine x_iinc (c := 1) dX12_maySee_89 rfl (by decide) ?_
                refine x_goto (tgt := 28) dX12_maySee_92 (by decide) ?_
                refine x_loc _ (?_ : lle _ _) (ih (fun k hk2 => (Nat.lt_succ_iff_lt_or_eq.mp hk2).elim (hall k) (fun e => ?_)))
                · exact ⟨rfl, rfl, rfl, congrArg some (congrArg Value.int (nI_1 _)), trivial⟩
                · subst e
                  rintro ⟨z1, z2⟩
                  first
                  | exact h58 z1
                  | (rcases z2 with z2 | z2
                     · exact h63 z2
                     · first
                       | exact absurd z2.1 (Int32.not_lt.mpr h69)
                       | exact z2.2 h84)
              · refine x_iconst (v := 0) dX12_maySee_87 (by decide) ?_
                exact x_ireturn dX12_maySee_88 rfl rfl (fin hq (bI_f (fun z => z.2 i hlt ⟨h58, by first | exact Or.inl h63 | exact Or.inr ⟨Int32.not_le.mp h69, h84⟩⟩)))
    exact x_loc [(0, .ref (ad 99)), (1, .int (nI w)), (2, .int (nI one)), (3, .int (nI 0))] ⟨rfl, rfl, rfl, rfl, trivial⟩ (hgoal 0 (Nat.zero_le _) (fun k h => absurd h (Nat.not_lt_zero k)))
  · refine x_iconst (v := 0) dX12_maySee_24 (by decide) ?_
    exact x_ireturn dX12_maySee_25 rfl rfl (fin hq (bI_f (fun z => h21 z.1)))
theorem c_X12_tryTable (hi : adOK ad) (hc : Cnt σ) : ∀ (f one seen : Nat) (t : TT) (Q : Option Value → Mem → Prop) (d : Nat), one + f = cn σ 60 → seen ≤ one → Q none (mm ad (wT σ (tryT σ f one seen t))) → CT G (d + f + 2) (0, 0) MX12_tryTable [.ref (ad 99), .int (nI one), .int (nI seen)] (mm ad (wT σ t)) Q := by
  obtain ⟨hw1, hw2⟩ := hc.b 59 (b := 4) (by decide)
  obtain ⟨ho1, ho2⟩ := hc.b 60 (b := 8) (by decide)
  intro f
  induction f with
  | zero =>
    intro one seen t Q d hf hs hq
    have hone : one = cn σ 60 := by omega
    refine CT.of rfl (Nat.le_of_ble_eq_true rfl) ?_
    refine x_iload_n dX12_tryTable_0 rfl rfl ?_
    refine x_aload_n dX12_tryTable_1 rfl rfl ?_
    refine xm_geti dX12_tryTable_2 lf_X12_372 vmi_60 ?_
    refine x_iadd dX12_tryTable_5 ?_
    refine x_iload_n dX12_tryTable_6 rfl rfl ?_
    refine x_isub dX12_tryTable_7 ?_
    refine x_aload_n dX12_tryTable_8 rfl rfl ?_
    refine xm_geti dX12_tryTable_9 lf_X12_375 vmi_61 ?_
    refine x_icmp_gt (tgt := 16) dX12_tryTable_12 (by decide) (fun h12 => ?_) (fun h12 => ?_)
    · refine x_iload_n dX12_tryTable_16 rfl rfl ?_
      refine x_aload_n dX12_tryTable_17 rfl rfl ?_
      refine xm_geti dX12_tryTable_18 lf_X12_372 vmi_60 ?_
      refine x_icmp_ne (tgt := 58) dX12_tryTable_21 (by decide) (fun z => absurd (show nI one = σ.1 60 by rw [hone]; exact ho1.symm) z) (fun _ => ?_)
      rw [show tryT σ 0 one seen t = (t.1, cpyN (cn σ 60) t.1 t.2.1, nI seen) from cI_f (Int32.not_le.mpr h12)] at hq
      refine x_aload_n dX12_tryTable_24 rfl rfl ?_
      refine x_iload_n dX12_tryTable_25 rfl rfl ?_
      refine xm_puti dX12_tryTable_26 lp_X12_375 vmq_61 vmn_61 vmf_61 ?_
      rw [wT_61]
      refine x_iconst (v := 0) dX12_tryTable_29 (by decide) ?_
      refine x_istore_n dX12_tryTable_30 rfl (by decide) ?_
      refine x_loc [(0, .ref (ad 99)), (1, .int (nI one)), (2, .int (nI seen)), (3, .int (nI 0))] ⟨rfl, rfl, rfl, rfl, trivial⟩ ?_
      refine loop_up (P := fun i => XJ G (d + 0 + 2) (0, 0) MX12_tryTable (mm ad (wT σ (t.1, cpyN i t.1 t.2.1, nI seen))) [(0, .ref (ad 99)), (1, .int (nI one)), (2, .int (nI seen)), (3, .int (nI i))] [] 31 Q) (n := cn σ 60) ?_ ?_ 0 (Nat.zero_le _)
      · refine x_iload_n dX12_tryTable_31 rfl rfl ?_
        refine x_aload_n dX12_tryTable_32 rfl rfl ?_
        refine xm_geti dX12_tryTable_33 lf_X12_372 vmi_60 ?_
        refine x_icmp_ge (tgt := 57) dX12_tryTable_36 (by decide) (fun _ => ?_) (fun z => absurd (loopT ho1) z)
        exact x_return dX12_tryTable_57 rfl (hq)
      · intro i hlt ih
        have hin : vp_in (nI i) 8 := vp_in_nI (by omega) (by decide)
        have hcl : (nI i).toNatClampNeg = i := nI_clamp (by omega)
        refine x_iload_n dX12_tryTable_31 rfl rfl ?_
        refine x_aload_n dX12_tryTable_32 rfl rfl ?_
        refine xm_geti dX12_tryTable_33 lf_X12_372 vmi_60 ?_
        refine x_icmp_ge (tgt := 57) dX12_tryTable_36 (by decide) (fun z => absurd z (loopF ho1 hlt (by omega))) (fun _ => ?_)
        refine x_aload_n dX12_tryTable_39 rfl rfl ?_
        refine xm_geta dX12_tryTable_40 lf_X12_126 vma_58 ?_
        refine x_iload_n dX12_tryTable_43 rfl rfl ?_
        refine x_aload_n dX12_tryTable_44 rfl rfl ?_
        refine xm_geta dX12_tryTable_45 lf_X12_123 vma_57 ?_
        refine x_iload_n dX12_tryTable_48 rfl rfl ?_
        refine xm_iald 57 dX12_tryTable_49 mf_57 hi hin hcl ?_
        refine xm_iast 58 dX12_tryTable_50 mf_58 hi hin hcl ?_
        rw [wT_58]
        refine x_iinc (c := 1) dX12_tryTable_51 rfl (by decide) ?_
        refine x_goto (tgt := 31) dX12_tryTable_54 (by decide) ?_
        refine x_loc _ (?_ : lle _ _) ih
        refine ⟨rfl, rfl, rfl, ?_, trivial⟩
        · show some (Value.int _) = some (Value.int (nI (i + 1)))
          rw [← nI_1]
    · exact x_return dX12_tryTable_15 rfl (by rw [show tryT σ 0 one seen t = t from cI_t (Int32.not_lt.mp h12)] at hq; exact hq)
  | succ f ihf =>
    intro one seen t Q d hf hs hq
    have hone : one < cn σ 60 := by omega
    have hinO : vp_in (nI one) 8 := vp_in_nI (by omega) (by decide)
    have hclO : (nI one).toNatClampNeg = one := nI_clamp (by omega)
    refine CT.of rfl (Nat.le_of_ble_eq_true rfl) ?_
    refine x_iload_n dX12_tryTable_0 rfl rfl ?_
    refine x_aload_n dX12_tryTable_1 rfl rfl ?_
    refine xm_geti dX12_tryTable_2 lf_X12_372 vmi_60 ?_
    refine x_iadd dX12_tryTable_5 ?_
    refine x_iload_n dX12_tryTable_6 rfl rfl ?_
    refine x_isub dX12_tryTable_7 ?_
    refine x_aload_n dX12_tryTable_8 rfl rfl ?_
    refine xm_geti dX12_tryTable_9 lf_X12_375 vmi_61 ?_
    refine x_icmp_gt (tgt := 16) dX12_tryTable_12 (by decide) (fun h12 => ?_) (fun h12 => ?_)
    · refine x_iload_n dX12_tryTable_16 rfl rfl ?_
      refine x_aload_n dX12_tryTable_17 rfl rfl ?_
      refine xm_geti dX12_tryTable_18 lf_X12_372 vmi_60 ?_
      refine x_icmp_ne (tgt := 58) dX12_tryTable_21 (by decide) (fun _ => ?_) (fun z => absurd z (show ¬ nI one = σ.1 60 by rw [ho1]; exact fun z => absurd ((nI_eq (by omega) (by omega)).mp z) (by omega)))
      rw [show tryT σ (f + 1) one seen t = tryT σ f (one + 1) seen (updB (fold (fun w s => cI (mayS σ s.1 w one) (tryT σ f (one + 1) (seen + 1) (updB s.1 one (nI w), s.2)) s) t (cn σ 59)).1 one (-1), (fold (fun w s => cI (mayS σ s.1 w one) (tryT σ f (one + 1) (seen + 1) (updB s.1 one (nI w), s.2)) s) t (cn σ 59)).2) from cI_f (Int32.not_le.mpr h12)] at hq
      refine x_iconst (v := 0) dX12_tryTable_58 (by decide) ?_
      refine x_istore_n dX12_tryTable_59 rfl (by decide) ?_
      refine x_loc [(0, .ref (ad 99)), (1, .int (nI one)), (2, .int (nI seen)), (3, .int (nI 0))] ⟨rfl, rfl, rfl, rfl, trivial⟩ ?_
      refine loop_up (P := fun w => XJ G (d + (f + 1) + 2) (0, 0) MX12_tryTable (mm ad (wT σ (fold (fun w s => cI (mayS σ s.1 w one) (tryT σ f (one + 1) (seen + 1) (updB s.1 one (nI w), s.2)) s) t w))) [(0, .ref (ad 99)), (1, .int (nI one)), (2, .int (nI seen)), (3, .int (nI w))] [] 60 Q) (n := cn σ 59) ?_ ?_ 0 (Nat.zero_le _)
      · refine x_iload_n dX12_tryTable_60 rfl rfl ?_
        refine x_aload_n dX12_tryTable_61 rfl rfl ?_
        refine xm_geti dX12_tryTable_62 lf_X12_369 vmi_59 ?_
        refine x_icmp_ge (tgt := 103) dX12_tryTable_65 (by decide) (fun _ => ?_) (fun z => absurd (loopT hw1) z)
        refine x_aload_n dX12_tryTable_103 rfl rfl ?_
        refine xm_geta dX12_tryTable_104 lf_X12_123 vma_57 ?_
        refine x_iload_n dX12_tryTable_107 rfl rfl ?_
        refine x_iconst (v := -1) dX12_tryTable_108 (by decide) ?_
        refine xm_iast 57 dX12_tryTable_109 mf_57 hi hinO hclO ?_
        rw [wT_57]
        refine x_aload_n dX12_tryTable_110 rfl rfl ?_
        refine x_iload_n dX12_tryTable_111 rfl rfl ?_
        refine x_iconst (v := 1) dX12_tryTable_112 (by decide) ?_
        refine x_iadd dX12_tryTable_113 ?_
        refine x_iload_n dX12_tryTable_114 rfl rfl ?_
        rw [nI_1]
        refine x_cV2 dX12_tryTable_115 lv_X12_381 mm_obj rfl rfl rfl  (ihf (one + 1) seen _ _ d (by omega) (by omega) ?_)
        exact x_return dX12_tryTable_118 rfl (hq)
      · intro w hlt ih
        have hst : fold (fun w s => cI (mayS σ s.1 w one) (tryT σ f (one + 1) (seen + 1) (updB s.1 one (nI w), s.2)) s) t (w + 1) = cI (mayS σ (fold (fun w s => cI (mayS σ s.1 w one) (tryT σ f (one + 1) (seen + 1) (updB s.1 one (nI w), s.2)) s) t w).1 w one) (tryT σ f (one + 1) (seen + 1) (updB (fold (fun w s => cI (mayS σ s.1 w one) (tryT σ f (one + 1) (seen + 1) (updB s.1 one (nI w), s.2)) s) t w).1 one (nI w), (fold (fun w s => cI (mayS σ s.1 w one) (tryT σ f (one + 1) (seen + 1) (updB s.1 one (nI w), s.2)) s) t w).2)) (fold (fun w s => cI (mayS σ s.1 w one) (tryT σ f (one + 1) (seen + 1) (updB s.1 one (nI w), s.2)) s) t w) := rfl
        rw [hst] at ih
        generalize fold (fun w s => cI (mayS σ s.1 w one) (tryT σ f (one + 1) (seen + 1) (updB s.1 one (nI w), s.2)) s) t w = tw at ih ⊢
        refine x_iload_n dX12_tryTable_60 rfl rfl ?_
        refine x_aload_n dX12_tryTable_61 rfl rfl ?_
        refine xm_geti dX12_tryTable_62 lf_X12_369 vmi_59 ?_
        refine x_icmp_ge (tgt := 103) dX12_tryTable_65 (by decide) (fun z => absurd z (loopF hw1 hlt (by omega))) (fun _ => ?_)
        refine x_aload_n dX12_tryTable_68 rfl rfl ?_
        refine x_iload_n dX12_tryTable_69 rfl rfl ?_
        refine x_iload_n dX12_tryTable_70 rfl rfl ?_
        refine x_cV2 dX12_tryTable_71 lv_X12_378 mm_obj rfl rfl rfl  (c_X12_maySee hi hc hlt hone ?_)
        refine x_if_ne_b (tgt := 80) dX12_tryTable_74 (by decide) (fun h74 => ?_) (fun h74 => ?_)
        · refine x_aload_n dX12_tryTable_80 rfl rfl ?_
          refine xm_geta dX12_tryTable_81 lf_X12_123 vma_57 ?_
          refine x_iload_n dX12_tryTable_84 rfl rfl ?_
          refine x_iload_n dX12_tryTable_85 rfl rfl ?_
          refine xm_iast 57 dX12_tryTable_86 mf_57 hi hinO hclO ?_
          rw [wT_57]
          refine x_aload_n dX12_tryTable_87 rfl rfl ?_
          refine x_iload_n dX12_tryTable_88 rfl rfl ?_
          refine x_iconst (v := 1) dX12_tryTable_89 (by decide) ?_
          refine x_iadd dX12_tryTable_90 ?_
          refine x_iload_n dX12_tryTable_91 rfl rfl ?_
          refine x_iconst (v := 1) dX12_tryTable_92 (by decide) ?_
          refine x_iadd dX12_tryTable_93 ?_
          rw [nI_1, nI_1]
          refine x_cV2 dX12_tryTable_94 lv_X12_381 mm_obj rfl rfl rfl  (ihf (one + 1) (seen + 1) _ _ d (by omega) (by omega) ?_)
          refine x_iinc (c := 1) dX12_tryTable_97 rfl (by decide) ?_
          refine x_goto (tgt := 60) dX12_tryTable_100 (by decide) ?_
          first
          | rw [cI_f h74] at ih
          | rw [cI_t h74] at ih
          refine x_loc _ (?_ : lle _ _) ih
          exact ⟨rfl, rfl, rfl, congrArg some (congrArg Value.int (nI_1 _)), trivial⟩
        · refine x_goto (tgt := 97) dX12_tryTable_77 (by decide) ?_
          refine x_iinc (c := 1) dX12_tryTable_97 rfl (by decide) ?_
          refine x_goto (tgt := 60) dX12_tryTable_100 (by decide) ?_
          first
          | rw [cI_f h74] at ih
          | rw [cI_t h74] at ih
          refine x_loc _ (?_ : lle _ _) ih
          exact ⟨rfl, rfl, rfl, congrArg some (congrArg Value.int (nI_1 _)), trivial⟩
    · exact x_return dX12_tryTable_15 rfl (by rw [show tryT σ (f + 1) one seen t = t from cI_t (Int32.not_lt.mp h12)] at hq; exact hq)
theorem c_X12_table {w : Int32} (hi : adOK ad) (h0 : seti σ 0 0 = σ0) (hc : Cnt σ0) (hq : ¬ (-1 ≤ w ∧ w ≤ σ0.1 60 - 1) → Q (some (.int (-2))) (mm ad σ0)) (hq2 : ∀ t, t = tryT σ0 (cn σ0 60) 0 0 (σ0.2 57, σ0.2 58, -1) → (-1 ≤ w ∧ w ≤ σ0.1 60 - 1) → Q (some (.int (if w = -1 then t.2.2 else t.2.1 w.toNatClampNeg))) (mm ad (wT σ0 t))) : CT G (d + cn σ0 60 + 3) (0, 0) MX12_table [.ref (ad 99), .int w] (mm ad σ) Q := by
  obtain ⟨ho1, ho2⟩ := hc.b 60 (b := 8) (by decide)
  refine CT.of rfl (Nat.le_of_ble_eq_true rfl) ?_
  refine x_aload_n dX12_table_0 rfl rfl ?_
  refine x_iconst (v := 0) dX12_table_1 (by decide) ?_
  refine xm_puti dX12_table_2 lp_X12_138 vmq_0 vmn_0 vmf_0 ?_
  rw [h0]
  refine x_iload_n dX12_table_5 rfl rfl ?_
  refine x_iconst (v := -1) dX12_table_6 (by decide) ?_
  refine x_aload_n dX12_table_7 rfl rfl ?_
  refine xm_geti dX12_table_8 lf_X12_372 vmi_60 ?_
  refine x_iconst (v := 1) dX12_table_11 (by decide) ?_
  refine x_isub dX12_table_12 ?_
  refine x_cS3 dX12_table_13 ls_X12_145 rfl  (c_X12_isIn ?_)
  refine x_if_ne_b (tgt := 22) dX12_table_16 (by decide) (fun h16 => ?_) (fun h16 => ?_)
  · refine x_aload_n dX12_table_22 rfl rfl ?_
    refine x_iconst (v := -1) dX12_table_23 (by decide) ?_
    refine xm_puti dX12_table_24 lp_X12_375 vmq_61 vmn_61 vmf_61 ?_
    rw [show seti σ0 61 (-1) = wT σ0 (σ0.2 57, σ0.2 58, -1) by have h := wT_61 (σ := σ0) (t := (σ0.2 57, σ0.2 58, σ0.1 61)) (v := -1); rw [wT_self] at h; exact h]
    refine x_aload_n dX12_table_27 rfl rfl ?_
    refine x_iconst (v := 0) dX12_table_28 (by decide) ?_
    refine x_iconst (v := 0) dX12_table_29 (by decide) ?_
    refine x_cV2 dX12_table_30 lv_X12_381 mm_obj rfl rfl rfl  (c_X12_tryTable hi hc (cn σ0 60) 0 0 (σ0.2 57, σ0.2 58, -1) _ d (by omega) (by omega) ?_)
    refine x_iload_n dX12_table_33 rfl rfl ?_
    refine x_iconst (v := -1) dX12_table_34 (by decide) ?_
    refine x_icmp_ne (tgt := 45) dX12_table_35 (by decide) (fun h35 => ?_) (fun h35 => ?_)
    · have hin : vp_in w 8 := by
        have h9 := h16.2
        have h8 := h16.1
        rw [vp_in_iff]
        rw [ho1] at h9
        rw [Int32.le_iff_toInt_le] at h8 h9
        have e1 : (-1 : Int32).toInt = -1 := rfl
        have e2 : (nI (cn σ0 60) - 1).toInt = (cn σ0 60 : Int) - 1 := by
          have := pk_sub_toInt (a := cn σ0 60) (b := 1) (by omega) (by decide)
          exact this
        rw [e1] at h8
        rw [e2] at h9
        have h7 : w.toInt ≠ -1 := fun z => h35 (Int32.toInt_inj.mp (z.trans e1.symm))
        omega
      refine x_aload_n dX12_table_45 rfl rfl ?_
      refine xm_geta dX12_table_46 lf_X12_126 vma_58 ?_
      refine x_iload_n dX12_table_49 rfl rfl ?_
      refine xm_iald 58 dX12_table_50 mf_58 hi hin rfl ?_
      exact x_ireturn dX12_table_51 rfl rfl (by
have h9 := hq2 _ rfl h16
first
| (rw [if_pos h35] at h9; exact h9)
| (rw [if_neg h35] at h9; exact h9))
    · refine x_aload_n dX12_table_38 rfl rfl ?_
      refine xm_geti dX12_table_39 lf_X12_375 vmi_61 ?_
      refine x_goto (tgt := 51) dX12_table_42 (by decide) ?_
      exact x_ireturn dX12_table_51 rfl rfl (by
have h9 := hq2 _ rfl h16
first
| (rw [if_pos h35] at h9; exact h9)
| (rw [if_neg h35] at h9; exact h9))
  · refine x_bipush (v := -2) dX12_table_19 (by decide) ?_
    exact x_ireturn dX12_table_21 rfl rfl (hq h16)
end MDE
end
section
theorem i_vc : Claimed_1_1 ∧ Claimed_1_2 := sorry
end
