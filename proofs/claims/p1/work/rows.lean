section
-- ===== PART A: goes FIRST, ahead of the names: the tables' words, and 'selects' of the private methods out of them =====
/-- a private method of a class that the tables say can be made, by its rows of tables_1 -/
def lw_okq (q : MethodName × Nat) : Prop := (q.1.cls ≠ "java/lang/invoke/MethodHandle" ∧ q.1.cls ≠ "java/lang/invoke/VarHandle") ∧ Cond.instantiable q.1.cls q.2 ∈ tables_1 ∧ Cond.privateMethod q.1 ∈ tables_1 ∧ Cond.instanceMethod q.1 ∈ tables_1
theorem lw_p0 : lw_okq (⟨"ManyNames", "isName", "(I)Z"⟩, 13) := ⟨⟨by decide +kernel, by decide +kernel⟩, List.mem_of_getElem? (i := 18) (by decide +kernel), List.mem_of_getElem? (i := 269) (by decide +kernel), List.mem_of_getElem? (i := 270) (by decide +kernel)⟩
theorem lw_p1 : lw_okq (⟨"ManyNames", "pledgeRoom", "(I)I"⟩, 13) := ⟨⟨by decide +kernel, by decide +kernel⟩, List.mem_of_getElem? (i := 18) (by decide +kernel), List.mem_of_getElem? (i := 280) (by decide +kernel), List.mem_of_getElem? (i := 281) (by decide +kernel)⟩
theorem lw_p2 : lw_okq (⟨"ManyNames", "arePair", "(II)Z"⟩, 13) := ⟨⟨by decide +kernel, by decide +kernel⟩, List.mem_of_getElem? (i := 18) (by decide +kernel), List.mem_of_getElem? (i := 288) (by decide +kernel), List.mem_of_getElem? (i := 289) (by decide +kernel)⟩
theorem lw_p3 : lw_okq (⟨"ManyNames", "isTie", "(I)Z"⟩, 13) := ⟨⟨by decide +kernel, by decide +kernel⟩, List.mem_of_getElem? (i := 18) (by decide +kernel), List.mem_of_getElem? (i := 300) (by decide +kernel), List.mem_of_getElem? (i := 301) (by decide +kernel)⟩
theorem lw_p4 : lw_okq (⟨"ManyNames", "roomOf", "(I)I"⟩, 13) := ⟨⟨by decide +kernel, by decide +kernel⟩, List.mem_of_getElem? (i := 18) (by decide +kernel), List.mem_of_getElem? (i := 304) (by decide +kernel), List.mem_of_getElem? (i := 305) (by decide +kernel)⟩
theorem lw_p5 : lw_okq (⟨"ManyNames", "hasMadeEnd", "(I)Z"⟩, 13) := ⟨⟨by decide +kernel, by decide +kernel⟩, List.mem_of_getElem? (i := 18) (by decide +kernel), List.mem_of_getElem? (i := 308) (by decide +kernel), List.mem_of_getElem? (i := 309) (by decide +kernel)⟩
theorem lw_p6 : lw_okq (⟨"ManyNames", "isFined", "(I)Z"⟩, 13) := ⟨⟨by decide +kernel, by decide +kernel⟩, List.mem_of_getElem? (i := 18) (by decide +kernel), List.mem_of_getElem? (i := 318) (by decide +kernel), List.mem_of_getElem? (i := 319) (by decide +kernel)⟩
theorem lw_p7 : lw_okq (⟨"ManyNames", "givenTo", "(I)I"⟩, 13) := ⟨⟨by decide +kernel, by decide +kernel⟩, List.mem_of_getElem? (i := 18) (by decide +kernel), List.mem_of_getElem? (i := 330) (by decide +kernel), List.mem_of_getElem? (i := 331) (by decide +kernel)⟩
theorem lw_p8 : lw_okq (⟨"ManyNames", "openTies", "(I)I"⟩, 13) := ⟨⟨by decide +kernel, by decide +kernel⟩, List.mem_of_getElem? (i := 18) (by decide +kernel), List.mem_of_getElem? (i := 334) (by decide +kernel), List.mem_of_getElem? (i := 335) (by decide +kernel)⟩
theorem lw_p9 : lw_okq (⟨"ManyNames", "standingFor", "(I)I"⟩, 13) := ⟨⟨by decide +kernel, by decide +kernel⟩, List.mem_of_getElem? (i := 18) (by decide +kernel), List.mem_of_getElem? (i := 345) (by decide +kernel), List.mem_of_getElem? (i := 346) (by decide +kernel)⟩
theorem lw_p10 : lw_okq (⟨"ManyNames$Tape", "readToken", "()V"⟩, 8) := ⟨⟨by decide +kernel, by decide +kernel⟩, List.mem_of_getElem? (i := 128) (by decide +kernel), List.mem_of_getElem? (i := 379) (by decide +kernel), List.mem_of_getElem? (i := 380) (by decide +kernel)⟩
theorem lw_p11 : lw_okq (⟨"ManyNames$Tape", "isLetter", "(I)Z"⟩, 8) := ⟨⟨by decide +kernel, by decide +kernel⟩, List.mem_of_getElem? (i := 128) (by decide +kernel), List.mem_of_getElem? (i := 383) (by decide +kernel), List.mem_of_getElem? (i := 384) (by decide +kernel)⟩
theorem lw_p12 : lw_okq (⟨"ManyNames$Tape", "readRule", "()V"⟩, 8) := ⟨⟨by decide +kernel, by decide +kernel⟩, List.mem_of_getElem? (i := 128) (by decide +kernel), List.mem_of_getElem? (i := 388) (by decide +kernel), List.mem_of_getElem? (i := 389) (by decide +kernel)⟩
theorem lw_p13 : lw_okq (⟨"ManyNames$Tape", "isText", "(Ljava/lang/String;)Z"⟩, 8) := ⟨⟨by decide +kernel, by decide +kernel⟩, List.mem_of_getElem? (i := 128) (by decide +kernel), List.mem_of_getElem? (i := 406) (by decide +kernel), List.mem_of_getElem? (i := 407) (by decide +kernel)⟩
theorem lw_p14 : lw_okq (⟨"ManyNames$Tape", "isFigure", "(I)Z"⟩, 8) := ⟨⟨by decide +kernel, by decide +kernel⟩, List.mem_of_getElem? (i := 128) (by decide +kernel), List.mem_of_getElem? (i := 458) (by decide +kernel), List.mem_of_getElem? (i := 459) (by decide +kernel)⟩
theorem lw_p15 : lw_okq (⟨"ManyNames$Tape", "readNumber", "()V"⟩, 8) := ⟨⟨by decide +kernel, by decide +kernel⟩, List.mem_of_getElem? (i := 128) (by decide +kernel), List.mem_of_getElem? (i := 462) (by decide +kernel), List.mem_of_getElem? (i := 463) (by decide +kernel)⟩
def lw_privs_1 : List (MethodName × Nat) := [(⟨"ManyNames", "isName", "(I)Z"⟩, 13), (⟨"ManyNames", "pledgeRoom", "(I)I"⟩, 13), (⟨"ManyNames", "arePair", "(II)Z"⟩, 13), (⟨"ManyNames", "isTie", "(I)Z"⟩, 13), (⟨"ManyNames", "roomOf", "(I)I"⟩, 13), (⟨"ManyNames", "hasMadeEnd", "(I)Z"⟩, 13), (⟨"ManyNames", "isFined", "(I)Z"⟩, 13), (⟨"ManyNames", "givenTo", "(I)I"⟩, 13), (⟨"ManyNames", "openTies", "(I)I"⟩, 13), (⟨"ManyNames", "standingFor", "(I)I"⟩, 13), (⟨"ManyNames$Tape", "readToken", "()V"⟩, 8), (⟨"ManyNames$Tape", "isLetter", "(I)Z"⟩, 8), (⟨"ManyNames$Tape", "readRule", "()V"⟩, 8), (⟨"ManyNames$Tape", "isText", "(Ljava/lang/String;)Z"⟩, 8), (⟨"ManyNames$Tape", "isFigure", "(I)Z"⟩, 8), (⟨"ManyNames$Tape", "readNumber", "()V"⟩, 8)]
theorem lw_r1 : ∀ q ∈ lw_privs_1, lw_okq q := List.forall_mem_cons.mpr ⟨lw_p0, List.forall_mem_cons.mpr ⟨lw_p1, List.forall_mem_cons.mpr ⟨lw_p2, List.forall_mem_cons.mpr ⟨lw_p3, List.forall_mem_cons.mpr ⟨lw_p4, List.forall_mem_cons.mpr ⟨lw_p5, List.forall_mem_cons.mpr ⟨lw_p6, List.forall_mem_cons.mpr ⟨lw_p7, List.forall_mem_cons.mpr ⟨lw_p8, List.forall_mem_cons.mpr ⟨lw_p9, List.forall_mem_cons.mpr ⟨lw_p10, List.forall_mem_cons.mpr ⟨lw_p11, List.forall_mem_cons.mpr ⟨lw_p12, List.forall_mem_cons.mpr ⟨lw_p13, List.forall_mem_cons.mpr ⟨lw_p14, List.forall_mem_cons.mpr ⟨lw_p15, fun _ h => absurd h List.not_mem_nil⟩⟩⟩⟩⟩⟩⟩⟩⟩⟩⟩⟩⟩⟩⟩⟩
theorem lw_p16 : lw_okq (⟨"ManyNames$Tape", "readLine", "([I)V"⟩, 8) := ⟨⟨by decide +kernel, by decide +kernel⟩, List.mem_of_getElem? (i := 128) (by decide +kernel), List.mem_of_getElem? (i := 466) (by decide +kernel), List.mem_of_getElem? (i := 467) (by decide +kernel)⟩
theorem lw_p17 : lw_okq (⟨"ManyNames$Tape", "stands", "(I)Z"⟩, 8) := ⟨⟨by decide +kernel, by decide +kernel⟩, List.mem_of_getElem? (i := 128) (by decide +kernel), List.mem_of_getElem? (i := 470) (by decide +kernel), List.mem_of_getElem? (i := 471) (by decide +kernel)⟩
theorem lw_p18 : lw_okq (⟨"ManyNames", "layFlow", "()V"⟩, 13) := ⟨⟨by decide +kernel, by decide +kernel⟩, List.mem_of_getElem? (i := 18) (by decide +kernel), List.mem_of_getElem? (i := 492) (by decide +kernel), List.mem_of_getElem? (i := 493) (by decide +kernel)⟩
theorem lw_p19 : lw_okq (⟨"ManyNames$Flow", "widen", "(III)V"⟩, 7) := ⟨⟨by decide +kernel, by decide +kernel⟩, List.mem_of_getElem? (i := 161) (by decide +kernel), List.mem_of_getElem? (i := 507) (by decide +kernel), List.mem_of_getElem? (i := 508) (by decide +kernel)⟩
theorem lw_p20 : lw_okq (⟨"ManyNames$Flow", "search", "(I)I"⟩, 7) := ⟨⟨by decide +kernel, by decide +kernel⟩, List.mem_of_getElem? (i := 161) (by decide +kernel), List.mem_of_getElem? (i := 520) (by decide +kernel), List.mem_of_getElem? (i := 521) (by decide +kernel)⟩
theorem lw_p21 : lw_okq (⟨"ManyNames$Flow", "push", "(I)I"⟩, 7) := ⟨⟨by decide +kernel, by decide +kernel⟩, List.mem_of_getElem? (i := 161) (by decide +kernel), List.mem_of_getElem? (i := 525) (by decide +kernel), List.mem_of_getElem? (i := 526) (by decide +kernel)⟩
theorem lw_p22 : lw_okq (⟨"ManyNames", "isHeap", "(I)Z"⟩, 13) := ⟨⟨by decide +kernel, by decide +kernel⟩, List.mem_of_getElem? (i := 18) (by decide +kernel), List.mem_of_getElem? (i := 536) (by decide +kernel), List.mem_of_getElem? (i := 537) (by decide +kernel)⟩
theorem lw_p23 : lw_okq (⟨"ManyNames", "tiesOutOf", "(I)I"⟩, 13) := ⟨⟨by decide +kernel, by decide +kernel⟩, List.mem_of_getElem? (i := 18) (by decide +kernel), List.mem_of_getElem? (i := 544) (by decide +kernel), List.mem_of_getElem? (i := 545) (by decide +kernel)⟩
theorem lw_p24 : lw_okq (⟨"ManyNames", "givenBeyond", "(I)I"⟩, 13) := ⟨⟨by decide +kernel, by decide +kernel⟩, List.mem_of_getElem? (i := 18) (by decide +kernel), List.mem_of_getElem? (i := 548) (by decide +kernel), List.mem_of_getElem? (i := 549) (by decide +kernel)⟩
theorem lw_p25 : lw_okq (⟨"ManyNames", "isPlain", "(I)Z"⟩, 13) := ⟨⟨by decide +kernel, by decide +kernel⟩, List.mem_of_getElem? (i := 18) (by decide +kernel), List.mem_of_getElem? (i := 556) (by decide +kernel), List.mem_of_getElem? (i := 557) (by decide +kernel)⟩
theorem lw_p26 : lw_okq (⟨"ManyNames", "fillTrusts", "()V"⟩, 13) := ⟨⟨by decide +kernel, by decide +kernel⟩, List.mem_of_getElem? (i := 18) (by decide +kernel), List.mem_of_getElem? (i := 564) (by decide +kernel), List.mem_of_getElem? (i := 565) (by decide +kernel)⟩
theorem lw_p27 : lw_okq (⟨"ManyNames", "refusalOf", "(IIIII)I"⟩, 13) := ⟨⟨by decide +kernel, by decide +kernel⟩, List.mem_of_getElem? (i := 18) (by decide +kernel), List.mem_of_getElem? (i := 572) (by decide +kernel), List.mem_of_getElem? (i := 573) (by decide +kernel)⟩
theorem lw_p28 : lw_okq (⟨"ManyNames$Words", "isNewDeal", "(I)Z"⟩, 8) := ⟨⟨by decide +kernel, by decide +kernel⟩, List.mem_of_getElem? (i := 90) (by decide +kernel), List.mem_of_getElem? (i := 580) (by decide +kernel), List.mem_of_getElem? (i := 581) (by decide +kernel)⟩
theorem lw_p29 : lw_okq (⟨"ManyNames", "isWord", "(I)Z"⟩, 13) := ⟨⟨by decide +kernel, by decide +kernel⟩, List.mem_of_getElem? (i := 18) (by decide +kernel), List.mem_of_getElem? (i := 588) (by decide +kernel), List.mem_of_getElem? (i := 589) (by decide +kernel)⟩
theorem lw_p30 : lw_okq (⟨"ManyNames", "sayersOf", "(I)I"⟩, 13) := ⟨⟨by decide +kernel, by decide +kernel⟩, List.mem_of_getElem? (i := 18) (by decide +kernel), List.mem_of_getElem? (i := 604) (by decide +kernel), List.mem_of_getElem? (i := 605) (by decide +kernel)⟩
theorem lw_p31 : lw_okq (⟨"ManyNames", "weighSayers", "(I)I"⟩, 13) := ⟨⟨by decide +kernel, by decide +kernel⟩, List.mem_of_getElem? (i := 18) (by decide +kernel), List.mem_of_getElem? (i := 608) (by decide +kernel), List.mem_of_getElem? (i := 609) (by decide +kernel)⟩
def lw_privs_2 : List (MethodName × Nat) := [(⟨"ManyNames$Tape", "readLine", "([I)V"⟩, 8), (⟨"ManyNames$Tape", "stands", "(I)Z"⟩, 8), (⟨"ManyNames", "layFlow", "()V"⟩, 13), (⟨"ManyNames$Flow", "widen", "(III)V"⟩, 7), (⟨"ManyNames$Flow", "search", "(I)I"⟩, 7), (⟨"ManyNames$Flow", "push", "(I)I"⟩, 7), (⟨"ManyNames", "isHeap", "(I)Z"⟩, 13), (⟨"ManyNames", "tiesOutOf", "(I)I"⟩, 13), (⟨"ManyNames", "givenBeyond", "(I)I"⟩, 13), (⟨"ManyNames", "isPlain", "(I)Z"⟩, 13), (⟨"ManyNames", "fillTrusts", "()V"⟩, 13), (⟨"ManyNames", "refusalOf", "(IIIII)I"⟩, 13), (⟨"ManyNames$Words", "isNewDeal", "(I)Z"⟩, 8), (⟨"ManyNames", "isWord", "(I)Z"⟩, 13), (⟨"ManyNames", "sayersOf", "(I)I"⟩, 13), (⟨"ManyNames", "weighSayers", "(I)I"⟩, 13)]
theorem lw_r2 : ∀ q ∈ lw_privs_2, lw_okq q := List.forall_mem_cons.mpr ⟨lw_p16, List.forall_mem_cons.mpr ⟨lw_p17, List.forall_mem_cons.mpr ⟨lw_p18, List.forall_mem_cons.mpr ⟨lw_p19, List.forall_mem_cons.mpr ⟨lw_p20, List.forall_mem_cons.mpr ⟨lw_p21, List.forall_mem_cons.mpr ⟨lw_p22, List.forall_mem_cons.mpr ⟨lw_p23, List.forall_mem_cons.mpr ⟨lw_p24, List.forall_mem_cons.mpr ⟨lw_p25, List.forall_mem_cons.mpr ⟨lw_p26, List.forall_mem_cons.mpr ⟨lw_p27, List.forall_mem_cons.mpr ⟨lw_p28, List.forall_mem_cons.mpr ⟨lw_p29, List.forall_mem_cons.mpr ⟨lw_p30, List.forall_mem_cons.mpr ⟨lw_p31, fun _ h => absurd h List.not_mem_nil⟩⟩⟩⟩⟩⟩⟩⟩⟩⟩⟩⟩⟩⟩⟩⟩
theorem lw_p32 : lw_okq (⟨"ManyNames", "summedMarks", "()I"⟩, 13) := ⟨⟨by decide +kernel, by decide +kernel⟩, List.mem_of_getElem? (i := 18) (by decide +kernel), List.mem_of_getElem? (i := 621) (by decide +kernel), List.mem_of_getElem? (i := 622) (by decide +kernel)⟩
theorem lw_p33 : lw_okq (⟨"ManyNames", "greatestStakes", "(IZ)I"⟩, 13) := ⟨⟨by decide +kernel, by decide +kernel⟩, List.mem_of_getElem? (i := 18) (by decide +kernel), List.mem_of_getElem? (i := 638) (by decide +kernel), List.mem_of_getElem? (i := 639) (by decide +kernel)⟩
theorem lw_p34 : lw_okq (⟨"ManyNames", "wordsWithin", "(IZ)I"⟩, 13) := ⟨⟨by decide +kernel, by decide +kernel⟩, List.mem_of_getElem? (i := 18) (by decide +kernel), List.mem_of_getElem? (i := 646) (by decide +kernel), List.mem_of_getElem? (i := 647) (by decide +kernel)⟩
theorem lw_p35 : lw_okq (⟨"ManyNames", "waysOf", "(II)J"⟩, 13) := ⟨⟨by decide +kernel, by decide +kernel⟩, List.mem_of_getElem? (i := 18) (by decide +kernel), List.mem_of_getElem? (i := 655) (by decide +kernel), List.mem_of_getElem? (i := 656) (by decide +kernel)⟩
theorem lw_p36 : lw_okq (⟨"ManyNames", "sellingNames", "()I"⟩, 13) := ⟨⟨by decide +kernel, by decide +kernel⟩, List.mem_of_getElem? (i := 18) (by decide +kernel), List.mem_of_getElem? (i := 674) (by decide +kernel), List.mem_of_getElem? (i := 675) (by decide +kernel)⟩
theorem lw_p37 : lw_okq (⟨"ManyNames", "boughtRoom", "(I)I"⟩, 13) := ⟨⟨by decide +kernel, by decide +kernel⟩, List.mem_of_getElem? (i := 18) (by decide +kernel), List.mem_of_getElem? (i := 679) (by decide +kernel), List.mem_of_getElem? (i := 680) (by decide +kernel)⟩
theorem lw_p38 : lw_okq (⟨"ManyNames", "gainBy", "(III)I"⟩, 13) := ⟨⟨by decide +kernel, by decide +kernel⟩, List.mem_of_getElem? (i := 18) (by decide +kernel), List.mem_of_getElem? (i := 683) (by decide +kernel), List.mem_of_getElem? (i := 684) (by decide +kernel)⟩
theorem lw_p39 : lw_okq (⟨"ManyNames", "countTrue", "([Z)I"⟩, 13) := ⟨⟨by decide +kernel, by decide +kernel⟩, List.mem_of_getElem? (i := 18) (by decide +kernel), List.mem_of_getElem? (i := 748) (by decide +kernel), List.mem_of_getElem? (i := 749) (by decide +kernel)⟩
theorem lw_p40 : lw_okq (⟨"ManyNames", "countFined", "()I"⟩, 13) := ⟨⟨by decide +kernel, by decide +kernel⟩, List.mem_of_getElem? (i := 18) (by decide +kernel), List.mem_of_getElem? (i := 752) (by decide +kernel), List.mem_of_getElem? (i := 753) (by decide +kernel)⟩
theorem lw_p41 : lw_okq (⟨"ManyNamesModel", "firstRules", "()V"⟩, 44) := ⟨⟨by decide +kernel, by decide +kernel⟩, List.mem_of_getElem? (i := 763) (by decide +kernel), List.mem_of_getElem? (i := 769) (by decide +kernel), List.mem_of_getElem? (i := 770) (by decide +kernel)⟩
theorem lw_p42 : lw_okq (⟨"ManyNamesModel", "keepRules", "()V"⟩, 44) := ⟨⟨by decide +kernel, by decide +kernel⟩, List.mem_of_getElem? (i := 763) (by decide +kernel), List.mem_of_getElem? (i := 773) (by decide +kernel), List.mem_of_getElem? (i := 774) (by decide +kernel)⟩
theorem lw_p43 : lw_okq (⟨"ManyNamesModel", "isName", "(I)Z"⟩, 44) := ⟨⟨by decide +kernel, by decide +kernel⟩, List.mem_of_getElem? (i := 763) (by decide +kernel), List.mem_of_getElem? (i := 922) (by decide +kernel), List.mem_of_getElem? (i := 923) (by decide +kernel)⟩
theorem lw_p44 : lw_okq (⟨"ManyNamesModel", "pledged", "(I)I"⟩, 44) := ⟨⟨by decide +kernel, by decide +kernel⟩, List.mem_of_getElem? (i := 763) (by decide +kernel), List.mem_of_getElem? (i := 930) (by decide +kernel), List.mem_of_getElem? (i := 931) (by decide +kernel)⟩
theorem lw_p45 : lw_okq (⟨"ManyNamesModel", "isTie", "(I)Z"⟩, 44) := ⟨⟨by decide +kernel, by decide +kernel⟩, List.mem_of_getElem? (i := 763) (by decide +kernel), List.mem_of_getElem? (i := 943) (by decide +kernel), List.mem_of_getElem? (i := 944) (by decide +kernel)⟩
theorem lw_p46 : lw_okq (⟨"ManyNamesModel", "roomOf", "(I)I"⟩, 44) := ⟨⟨by decide +kernel, by decide +kernel⟩, List.mem_of_getElem? (i := 763) (by decide +kernel), List.mem_of_getElem? (i := 948) (by decide +kernel), List.mem_of_getElem? (i := 949) (by decide +kernel)⟩
theorem lw_p47 : lw_okq (⟨"ManyNamesModel", "isFined", "(I)Z"⟩, 44) := ⟨⟨by decide +kernel, by decide +kernel⟩, List.mem_of_getElem? (i := 763) (by decide +kernel), List.mem_of_getElem? (i := 955) (by decide +kernel), List.mem_of_getElem? (i := 956) (by decide +kernel)⟩
def lw_privs_3 : List (MethodName × Nat) := [(⟨"ManyNames", "summedMarks", "()I"⟩, 13), (⟨"ManyNames", "greatestStakes", "(IZ)I"⟩, 13), (⟨"ManyNames", "wordsWithin", "(IZ)I"⟩, 13), (⟨"ManyNames", "waysOf", "(II)J"⟩, 13), (⟨"ManyNames", "sellingNames", "()I"⟩, 13), (⟨"ManyNames", "boughtRoom", "(I)I"⟩, 13), (⟨"ManyNames", "gainBy", "(III)I"⟩, 13), (⟨"ManyNames", "countTrue", "([Z)I"⟩, 13), (⟨"ManyNames", "countFined", "()I"⟩, 13), (⟨"ManyNamesModel", "firstRules", "()V"⟩, 44), (⟨"ManyNamesModel", "keepRules", "()V"⟩, 44), (⟨"ManyNamesModel", "isName", "(I)Z"⟩, 44), (⟨"ManyNamesModel", "pledged", "(I)I"⟩, 44), (⟨"ManyNamesModel", "isTie", "(I)Z"⟩, 44), (⟨"ManyNamesModel", "roomOf", "(I)I"⟩, 44), (⟨"ManyNamesModel", "isFined", "(I)Z"⟩, 44)]
theorem lw_r3 : ∀ q ∈ lw_privs_3, lw_okq q := List.forall_mem_cons.mpr ⟨lw_p32, List.forall_mem_cons.mpr ⟨lw_p33, List.forall_mem_cons.mpr ⟨lw_p34, List.forall_mem_cons.mpr ⟨lw_p35, List.forall_mem_cons.mpr ⟨lw_p36, List.forall_mem_cons.mpr ⟨lw_p37, List.forall_mem_cons.mpr ⟨lw_p38, List.forall_mem_cons.mpr ⟨lw_p39, List.forall_mem_cons.mpr ⟨lw_p40, List.forall_mem_cons.mpr ⟨lw_p41, List.forall_mem_cons.mpr ⟨lw_p42, List.forall_mem_cons.mpr ⟨lw_p43, List.forall_mem_cons.mpr ⟨lw_p44, List.forall_mem_cons.mpr ⟨lw_p45, List.forall_mem_cons.mpr ⟨lw_p46, List.forall_mem_cons.mpr ⟨lw_p47, fun _ h => absurd h List.not_mem_nil⟩⟩⟩⟩⟩⟩⟩⟩⟩⟩⟩⟩⟩⟩⟩⟩
theorem lw_p48 : lw_okq (⟨"ManyNamesModel", "given", "(I)I"⟩, 44) := ⟨⟨by decide +kernel, by decide +kernel⟩, List.mem_of_getElem? (i := 763) (by decide +kernel), List.mem_of_getElem? (i := 968) (by decide +kernel), List.mem_of_getElem? (i := 969) (by decide +kernel)⟩
theorem lw_p49 : lw_okq (⟨"ManyNamesModel", "next", "()V"⟩, 44) := ⟨⟨by decide +kernel, by decide +kernel⟩, List.mem_of_getElem? (i := 763) (by decide +kernel), List.mem_of_getElem? (i := 997) (by decide +kernel), List.mem_of_getElem? (i := 998) (by decide +kernel)⟩
theorem lw_p50 : lw_okq (⟨"ManyNamesModel", "look", "(I)I"⟩, 44) := ⟨⟨by decide +kernel, by decide +kernel⟩, List.mem_of_getElem? (i := 763) (by decide +kernel), List.mem_of_getElem? (i := 1001) (by decide +kernel), List.mem_of_getElem? (i := 1002) (by decide +kernel)⟩
theorem lw_p51 : lw_okq (⟨"ManyNamesModel", "nameNow", "()I"⟩, 44) := ⟨⟨by decide +kernel, by decide +kernel⟩, List.mem_of_getElem? (i := 763) (by decide +kernel), List.mem_of_getElem? (i := 1007) (by decide +kernel), List.mem_of_getElem? (i := 1008) (by decide +kernel)⟩
theorem lw_p52 : lw_okq (⟨"ManyNamesModel", "is", "(IIIII)Z"⟩, 44) := ⟨⟨by decide +kernel, by decide +kernel⟩, List.mem_of_getElem? (i := 763) (by decide +kernel), List.mem_of_getElem? (i := 1011) (by decide +kernel), List.mem_of_getElem? (i := 1012) (by decide +kernel)⟩
theorem lw_p53 : lw_okq (⟨"ManyNamesModel", "wants", "(ZI)V"⟩, 44) := ⟨⟨by decide +kernel, by decide +kernel⟩, List.mem_of_getElem? (i := 763) (by decide +kernel), List.mem_of_getElem? (i := 1015) (by decide +kernel), List.mem_of_getElem? (i := 1016) (by decide +kernel)⟩
theorem lw_p54 : lw_okq (⟨"ManyNamesModel", "readLine", "()V"⟩, 44) := ⟨⟨by decide +kernel, by decide +kernel⟩, List.mem_of_getElem? (i := 763) (by decide +kernel), List.mem_of_getElem? (i := 1021) (by decide +kernel), List.mem_of_getElem? (i := 1022) (by decide +kernel)⟩
theorem lw_p55 : lw_okq (⟨"ManyNamesModel", "trustOf", "(I)I"⟩, 44) := ⟨⟨by decide +kernel, by decide +kernel⟩, List.mem_of_getElem? (i := 763) (by decide +kernel), List.mem_of_getElem? (i := 1044) (by decide +kernel), List.mem_of_getElem? (i := 1045) (by decide +kernel)⟩
theorem lw_p56 : lw_okq (⟨"ManyNamesModel", "begins", "()V"⟩, 44) := ⟨⟨by decide +kernel, by decide +kernel⟩, List.mem_of_getElem? (i := 763) (by decide +kernel), List.mem_of_getElem? (i := 1048) (by decide +kernel), List.mem_of_getElem? (i := 1049) (by decide +kernel)⟩
theorem lw_p57 : lw_okq (⟨"ManyNamesModel", "flows", "()I"⟩, 44) := ⟨⟨by decide +kernel, by decide +kernel⟩, List.mem_of_getElem? (i := 763) (by decide +kernel), List.mem_of_getElem? (i := 1053) (by decide +kernel), List.mem_of_getElem? (i := 1054) (by decide +kernel)⟩
theorem lw_p58 : lw_okq (⟨"ManyNamesModel", "reaches", "()Z"⟩, 44) := ⟨⟨by decide +kernel, by decide +kernel⟩, List.mem_of_getElem? (i := 763) (by decide +kernel), List.mem_of_getElem? (i := 1057) (by decide +kernel), List.mem_of_getElem? (i := 1058) (by decide +kernel)⟩
theorem lw_p59 : lw_okq (⟨"ManyNamesModel", "areNames", "(I)Z"⟩, 44) := ⟨⟨by decide +kernel, by decide +kernel⟩, List.mem_of_getElem? (i := 763) (by decide +kernel), List.mem_of_getElem? (i := 1065) (by decide +kernel), List.mem_of_getElem? (i := 1066) (by decide +kernel)⟩
theorem lw_p60 : lw_okq (⟨"ManyNamesModel", "isPlain", "(I)Z"⟩, 44) := ⟨⟨by decide +kernel, by decide +kernel⟩, List.mem_of_getElem? (i := 763) (by decide +kernel), List.mem_of_getElem? (i := 1078) (by decide +kernel), List.mem_of_getElem? (i := 1079) (by decide +kernel)⟩
theorem lw_p61 : lw_okq (⟨"ManyNamesModel", "isWord", "(IIII)Z"⟩, 44) := ⟨⟨by decide +kernel, by decide +kernel⟩, List.mem_of_getElem? (i := 763) (by decide +kernel), List.mem_of_getElem? (i := 1090) (by decide +kernel), List.mem_of_getElem? (i := 1091) (by decide +kernel)⟩
theorem lw_p62 : lw_okq (⟨"ManyNamesModel", "says", "(IIII)V"⟩, 44) := ⟨⟨by decide +kernel, by decide +kernel⟩, List.mem_of_getElem? (i := 763) (by decide +kernel), List.mem_of_getElem? (i := 1096) (by decide +kernel), List.mem_of_getElem? (i := 1097) (by decide +kernel)⟩
theorem lw_p63 : lw_okq (⟨"ManyNamesModel", "counts", "(I)Z"⟩, 44) := ⟨⟨by decide +kernel, by decide +kernel⟩, List.mem_of_getElem? (i := 763) (by decide +kernel), List.mem_of_getElem? (i := 1104) (by decide +kernel), List.mem_of_getElem? (i := 1105) (by decide +kernel)⟩
def lw_privs_4 : List (MethodName × Nat) := [(⟨"ManyNamesModel", "given", "(I)I"⟩, 44), (⟨"ManyNamesModel", "next", "()V"⟩, 44), (⟨"ManyNamesModel", "look", "(I)I"⟩, 44), (⟨"ManyNamesModel", "nameNow", "()I"⟩, 44), (⟨"ManyNamesModel", "is", "(IIIII)Z"⟩, 44), (⟨"ManyNamesModel", "wants", "(ZI)V"⟩, 44), (⟨"ManyNamesModel", "readLine", "()V"⟩, 44), (⟨"ManyNamesModel", "trustOf", "(I)I"⟩, 44), (⟨"ManyNamesModel", "begins", "()V"⟩, 44), (⟨"ManyNamesModel", "flows", "()I"⟩, 44), (⟨"ManyNamesModel", "reaches", "()Z"⟩, 44), (⟨"ManyNamesModel", "areNames", "(I)Z"⟩, 44), (⟨"ManyNamesModel", "isPlain", "(I)Z"⟩, 44), (⟨"ManyNamesModel", "isWord", "(IIII)Z"⟩, 44), (⟨"ManyNamesModel", "says", "(IIII)V"⟩, 44), (⟨"ManyNamesModel", "counts", "(I)Z"⟩, 44)]
theorem lw_r4 : ∀ q ∈ lw_privs_4, lw_okq q := List.forall_mem_cons.mpr ⟨lw_p48, List.forall_mem_cons.mpr ⟨lw_p49, List.forall_mem_cons.mpr ⟨lw_p50, List.forall_mem_cons.mpr ⟨lw_p51, List.forall_mem_cons.mpr ⟨lw_p52, List.forall_mem_cons.mpr ⟨lw_p53, List.forall_mem_cons.mpr ⟨lw_p54, List.forall_mem_cons.mpr ⟨lw_p55, List.forall_mem_cons.mpr ⟨lw_p56, List.forall_mem_cons.mpr ⟨lw_p57, List.forall_mem_cons.mpr ⟨lw_p58, List.forall_mem_cons.mpr ⟨lw_p59, List.forall_mem_cons.mpr ⟨lw_p60, List.forall_mem_cons.mpr ⟨lw_p61, List.forall_mem_cons.mpr ⟨lw_p62, List.forall_mem_cons.mpr ⟨lw_p63, fun _ h => absurd h List.not_mem_nil⟩⟩⟩⟩⟩⟩⟩⟩⟩⟩⟩⟩⟩⟩⟩⟩
theorem lw_p64 : lw_okq (⟨"ManyNamesModel", "isFirst", "(I)Z"⟩, 44) := ⟨⟨by decide +kernel, by decide +kernel⟩, List.mem_of_getElem? (i := 763) (by decide +kernel), List.mem_of_getElem? (i := 1108) (by decide +kernel), List.mem_of_getElem? (i := 1109) (by decide +kernel)⟩
theorem lw_p65 : lw_okq (⟨"ManyNamesModel", "sayersOf", "(I)I"⟩, 44) := ⟨⟨by decide +kernel, by decide +kernel⟩, List.mem_of_getElem? (i := 763) (by decide +kernel), List.mem_of_getElem? (i := 1116) (by decide +kernel), List.mem_of_getElem? (i := 1117) (by decide +kernel)⟩
theorem lw_p66 : lw_okq (⟨"ManyNamesModel", "wordBy", "(II)I"⟩, 44) := ⟨⟨by decide +kernel, by decide +kernel⟩, List.mem_of_getElem? (i := 763) (by decide +kernel), List.mem_of_getElem? (i := 1120) (by decide +kernel), List.mem_of_getElem? (i := 1121) (by decide +kernel)⟩
theorem lw_p67 : lw_okq (⟨"ManyNamesModel", "weightOf", "(II)I"⟩, 44) := ⟨⟨by decide +kernel, by decide +kernel⟩, List.mem_of_getElem? (i := 763) (by decide +kernel), List.mem_of_getElem? (i := 1124) (by decide +kernel), List.mem_of_getElem? (i := 1125) (by decide +kernel)⟩
theorem lw_p68 : lw_okq (⟨"ManyNamesModel", "lists", "(I)V"⟩, 44) := ⟨⟨by decide +kernel, by decide +kernel⟩, List.mem_of_getElem? (i := 763) (by decide +kernel), List.mem_of_getElem? (i := 1136) (by decide +kernel), List.mem_of_getElem? (i := 1137) (by decide +kernel)⟩
theorem lw_p69 : lw_okq (⟨"ManyNamesModel", "fraction", "(II)I"⟩, 44) := ⟨⟨by decide +kernel, by decide +kernel⟩, List.mem_of_getElem? (i := 763) (by decide +kernel), List.mem_of_getElem? (i := 1140) (by decide +kernel), List.mem_of_getElem? (i := 1141) (by decide +kernel)⟩
theorem lw_p70 : lw_okq (⟨"ManyNamesModel", "moved", "(IZ)I"⟩, 44) := ⟨⟨by decide +kernel, by decide +kernel⟩, List.mem_of_getElem? (i := 763) (by decide +kernel), List.mem_of_getElem? (i := 1151) (by decide +kernel), List.mem_of_getElem? (i := 1152) (by decide +kernel)⟩
theorem lw_p71 : lw_okq (⟨"ManyNamesModel", "ringOf", "(II)I"⟩, 44) := ⟨⟨by decide +kernel, by decide +kernel⟩, List.mem_of_getElem? (i := 763) (by decide +kernel), List.mem_of_getElem? (i := 1159) (by decide +kernel), List.mem_of_getElem? (i := 1160) (by decide +kernel)⟩
theorem lw_p72 : lw_okq (⟨"ManyNamesModel", "isBetween", "(II)Z"⟩, 44) := ⟨⟨by decide +kernel, by decide +kernel⟩, List.mem_of_getElem? (i := 763) (by decide +kernel), List.mem_of_getElem? (i := 1163) (by decide +kernel), List.mem_of_getElem? (i := 1164) (by decide +kernel)⟩
theorem lw_p73 : lw_okq (⟨"ManyNamesModel", "isGood", "(I)Z"⟩, 44) := ⟨⟨by decide +kernel, by decide +kernel⟩, List.mem_of_getElem? (i := 763) (by decide +kernel), List.mem_of_getElem? (i := 1167) (by decide +kernel), List.mem_of_getElem? (i := 1168) (by decide +kernel)⟩
theorem lw_p74 : lw_okq (⟨"ManyNamesModel", "findOdds", "(I)V"⟩, 44) := ⟨⟨by decide +kernel, by decide +kernel⟩, List.mem_of_getElem? (i := 763) (by decide +kernel), List.mem_of_getElem? (i := 1176) (by decide +kernel), List.mem_of_getElem? (i := 1177) (by decide +kernel)⟩
theorem lw_p75 : lw_okq (⟨"ManyNamesModel", "sellers", "()I"⟩, 44) := ⟨⟨by decide +kernel, by decide +kernel⟩, List.mem_of_getElem? (i := 763) (by decide +kernel), List.mem_of_getElem? (i := 1192) (by decide +kernel), List.mem_of_getElem? (i := 1193) (by decide +kernel)⟩
theorem lw_p76 : lw_okq (⟨"ManyNamesModel", "sells", "(I)Z"⟩, 44) := ⟨⟨by decide +kernel, by decide +kernel⟩, List.mem_of_getElem? (i := 763) (by decide +kernel), List.mem_of_getElem? (i := 1196) (by decide +kernel), List.mem_of_getElem? (i := 1197) (by decide +kernel)⟩
theorem lw_p77 : lw_okq (⟨"ManyNamesModel", "gainOf", "(III)I"⟩, 44) := ⟨⟨by decide +kernel, by decide +kernel⟩, List.mem_of_getElem? (i := 763) (by decide +kernel), List.mem_of_getElem? (i := 1201) (by decide +kernel), List.mem_of_getElem? (i := 1202) (by decide +kernel)⟩
theorem lw_p78 : lw_okq (⟨"ManyNamesModel", "refuses", "(IIJ)I"⟩, 44) := ⟨⟨by decide +kernel, by decide +kernel⟩, List.mem_of_getElem? (i := 763) (by decide +kernel), List.mem_of_getElem? (i := 1225) (by decide +kernel), List.mem_of_getElem? (i := 1226) (by decide +kernel)⟩
def lw_privs_5 : List (MethodName × Nat) := [(⟨"ManyNamesModel", "isFirst", "(I)Z"⟩, 44), (⟨"ManyNamesModel", "sayersOf", "(I)I"⟩, 44), (⟨"ManyNamesModel", "wordBy", "(II)I"⟩, 44), (⟨"ManyNamesModel", "weightOf", "(II)I"⟩, 44), (⟨"ManyNamesModel", "lists", "(I)V"⟩, 44), (⟨"ManyNamesModel", "fraction", "(II)I"⟩, 44), (⟨"ManyNamesModel", "moved", "(IZ)I"⟩, 44), (⟨"ManyNamesModel", "ringOf", "(II)I"⟩, 44), (⟨"ManyNamesModel", "isBetween", "(II)Z"⟩, 44), (⟨"ManyNamesModel", "isGood", "(I)Z"⟩, 44), (⟨"ManyNamesModel", "findOdds", "(I)V"⟩, 44), (⟨"ManyNamesModel", "sellers", "()I"⟩, 44), (⟨"ManyNamesModel", "sells", "(I)Z"⟩, 44), (⟨"ManyNamesModel", "gainOf", "(III)I"⟩, 44), (⟨"ManyNamesModel", "refuses", "(IIJ)I"⟩, 44)]
theorem lw_r5 : ∀ q ∈ lw_privs_5, lw_okq q := List.forall_mem_cons.mpr ⟨lw_p64, List.forall_mem_cons.mpr ⟨lw_p65, List.forall_mem_cons.mpr ⟨lw_p66, List.forall_mem_cons.mpr ⟨lw_p67, List.forall_mem_cons.mpr ⟨lw_p68, List.forall_mem_cons.mpr ⟨lw_p69, List.forall_mem_cons.mpr ⟨lw_p70, List.forall_mem_cons.mpr ⟨lw_p71, List.forall_mem_cons.mpr ⟨lw_p72, List.forall_mem_cons.mpr ⟨lw_p73, List.forall_mem_cons.mpr ⟨lw_p74, List.forall_mem_cons.mpr ⟨lw_p75, List.forall_mem_cons.mpr ⟨lw_p76, List.forall_mem_cons.mpr ⟨lw_p77, List.forall_mem_cons.mpr ⟨lw_p78, fun _ h => absurd h List.not_mem_nil⟩⟩⟩⟩⟩⟩⟩⟩⟩⟩⟩⟩⟩⟩⟩
def lw_privs : List (MethodName × Nat) := lw_privs_1 ++ (lw_privs_2 ++ (lw_privs_3 ++ (lw_privs_4 ++ (lw_privs_5))))
def lw_tbl : List Cond := k2_sels lw_privs ++ tables_1
theorem lw_privs_ok : ∀ q ∈ lw_privs, lw_okq q := by
  show ∀ q ∈ lw_privs_1 ++ (lw_privs_2 ++ (lw_privs_3 ++ (lw_privs_4 ++ (lw_privs_5)))), lw_okq q
  exact List.forall_mem_append.mpr ⟨lw_r1, List.forall_mem_append.mpr ⟨lw_r2, List.forall_mem_append.mpr ⟨lw_r3, List.forall_mem_append.mpr ⟨lw_r4, lw_r5⟩⟩⟩⟩
end
section
def RX0 : String := "ManyNames$Flow"
def TX0 : u_T := fun k => match k with
  | 0 => ("ManyNames$Flow", "rooms", "[I", true)
  | 1 => ("ManyNames$Flow", "ways", "[I", true)
  | 2 => ("ManyNames$Flow", "left", "[I", true)
  | 3 => ("ManyNames$Flow", "open", "[I", true)
  | 4 => ("ManyNames$Flow", "from", "[I", true)
  | 5 => ("ManyNames$Flow", "queue", "[I", true)
  | _ => ("ManyNames$Flow", "reached", "I", false)
def tyX0 : Nat → FieldType := fun k => match k with
  | 0 => .array .int
  | 1 => .array .int
  | 2 => .array .int
  | 3 => .array .int
  | 4 => .array .int
  | 5 => .array .int
  | _ => .int
abbrev wsX00 : List Cond := u_ws RX0 TX0 7
theorem nmX0 : ∀ a, a < 7 → ∀ b, b < 7 → a ≠ b → (TX0 a).2.1 ≠ (TX0 b).2.1 := by decide +kernel
theorem tyX0_ok : ∀ k, k < 7 → parseFieldDescriptor (TX0 k).2.2.1 = some (tyX0 k) := by decide +kernel
abbrev cX0_init : ByteArray := prog_2_method_1_code
def yX0_init : MethodName := ⟨RX0, "<init>", "()V"⟩
abbrev cX0_clear : ByteArray := prog_2_method_2_code
def yX0_clear : MethodName := ⟨RX0, "clear", "()V"⟩
abbrev cX0_give : ByteArray := prog_2_method_3_code
def yX0_give : MethodName := ⟨RX0, "give", "(II)V"⟩
abbrev cX0_join : ByteArray := prog_2_method_4_code
def yX0_join : MethodName := ⟨RX0, "join", "(III)V"⟩
abbrev cX0_widen : ByteArray := prog_2_method_5_code
def yX0_widen : MethodName := ⟨RX0, "widen", "(III)V"⟩
abbrev cX0_partCheat : ByteArray := prog_2_method_6_code
def yX0_partCheat : MethodName := ⟨RX0, "partCheat", "()V"⟩
abbrev cX0_most : ByteArray := prog_2_method_7_code
def yX0_most : MethodName := ⟨RX0, "most", "(I)I"⟩
abbrev cX0_search : ByteArray := prog_2_method_8_code
def yX0_search : MethodName := ⟨RX0, "search", "(I)I"⟩
abbrev cX0_push : ByteArray := prog_2_method_9_code
def yX0_push : MethodName := ⟨RX0, "push", "(I)I"⟩
def RX1 : String := "ManyNames$Folk"
def TX1 : u_T := fun k => match k with
  | 0 => ("ManyNames$Folk", "price", "[I", true)
  | 1 => ("ManyNames$Folk", "seed", "[Z", true)
  | 2 => ("ManyNames$Folk", "made", "[Z", true)
  | 3 => ("ManyNames$Folk", "finedTo", "[I", true)
  | 4 => ("ManyNames$Folk", "coins", "[I", true)
  | _ => ("ManyNames$Folk", "count", "I", false)
def tyX1 : Nat → FieldType := fun k => match k with
  | 0 => .array .int
  | 1 => .array .boolean
  | 2 => .array .boolean
  | 3 => .array .int
  | 4 => .array .int
  | _ => .int
abbrev wsX10 : List Cond := u_ws RX1 TX1 6
theorem nmX1 : ∀ a, a < 6 → ∀ b, b < 6 → a ≠ b → (TX1 a).2.1 ≠ (TX1 b).2.1 := by decide +kernel
theorem tyX1_ok : ∀ k, k < 6 → parseFieldDescriptor (TX1 k).2.2.1 = some (tyX1 k) := by decide +kernel
abbrev cX1_init : ByteArray := prog_3_method_1_code
def yX1_init : MethodName := ⟨RX1, "<init>", "()V"⟩
abbrev cX1_enter : ByteArray := prog_3_method_2_code
def yX1_enter : MethodName := ⟨RX1, "enter", "(I)I"⟩
def RX2 : String := "ManyNames$Sheet"
def TX2 : u_T := fun k => match k with
  | 0 => ("ManyNames$Sheet", "cells", "[I", true)
  | 1 => ("ManyNames$Sheet", "lane", "I", false)
  | _ => ("ManyNames$Sheet", "size", "I", false)
def tyX2 : Nat → FieldType := fun k => match k with
  | 0 => .array .int
  | 1 => .int
  | _ => .int
abbrev wsX20 : List Cond := u_ws RX2 TX2 3
theorem nmX2 : ∀ a, a < 3 → ∀ b, b < 3 → a ≠ b → (TX2 a).2.1 ≠ (TX2 b).2.1 := by decide +kernel
theorem tyX2_ok : ∀ k, k < 3 → parseFieldDescriptor (TX2 k).2.2.1 = some (tyX2 k) := by decide +kernel
abbrev cX2_init : ByteArray := prog_4_method_1_code
def yX2_init : MethodName := ⟨RX2, "<init>", "()V"⟩
abbrev cX2_isNothing : ByteArray := prog_4_method_2_code
def yX2_isNothing : MethodName := ⟨RX2, "isNothing", "()Z"⟩
abbrev cX2_renewRow : ByteArray := prog_4_method_3_code
def yX2_renewRow : MethodName := ⟨RX2, "renewRow", "(II)V"⟩
abbrev cX2_faultAt : ByteArray := prog_4_method_4_code
def yX2_faultAt : MethodName := ⟨RX2, "faultAt", "(I)I"⟩
abbrev cX2_put : ByteArray := prog_4_method_5_code
def yX2_put : MethodName := ⟨RX2, "put", "(II)V"⟩
abbrev cX2_wholeWords : ByteArray := prog_4_method_6_code
def yX2_wholeWords : MethodName := ⟨RX2, "wholeWords", "(III)I"⟩
abbrev cX2_faultOfReading : ByteArray := prog_4_method_7_code
def yX2_faultOfReading : MethodName := ⟨RX2, "faultOfReading", "(III)I"⟩
def RX3 : String := "ManyNames$Tape"
def TX3 : u_T := fun k => match k with
  | 0 => ("ManyNames$Tape", "bytes", "[I", true)
  | 1 => ("ManyNames$Tape", "length", "I", false)
  | 2 => ("ManyNames$Tape", "fault", "I", false)
  | 3 => ("ManyNames$Tape", "place", "I", false)
  | 4 => ("ManyNames$Tape", "start", "I", false)
  | 5 => ("ManyNames$Tape", "token", "I", false)
  | 6 => ("ManyNames$Tape", "value", "I", false)
  | _ => ("ManyNames$Tape", "told", "I", false)
def tyX3 : Nat → FieldType := fun k => match k with
  | 0 => .array .int
  | 1 => .int
  | 2 => .int
  | 3 => .int
  | 4 => .int
  | 5 => .int
  | 6 => .int
  | _ => .int
abbrev wsX30 : List Cond := u_ws RX3 TX3 8
theorem nmX3 : ∀ a, a < 8 → ∀ b, b < 8 → a ≠ b → (TX3 a).2.1 ≠ (TX3 b).2.1 := by decide +kernel
theorem tyX3_ok : ∀ k, k < 8 → parseFieldDescriptor (TX3 k).2.2.1 = some (tyX3 k) := by decide +kernel
abbrev cX3_init : ByteArray := prog_5_method_1_code
def yX3_init : MethodName := ⟨RX3, "<init>", "()V"⟩
abbrev cX3_takeEight : ByteArray := prog_5_method_2_code
def yX3_takeEight : MethodName := ⟨RX3, "takeEight", "(J)I"⟩
abbrev cX3_readLines : ByteArray := prog_5_method_3_code
def yX3_readLines : MethodName := ⟨RX3, "readLines", "([I)I"⟩
abbrev cX3_readLine : ByteArray := prog_5_method_4_code
def yX3_readLine : MethodName := ⟨RX3, "readLine", "([I)V"⟩
abbrev cX3_stands : ByteArray := prog_5_method_5_code
def yX3_stands : MethodName := ⟨RX3, "stands", "(I)Z"⟩
abbrev cX3_readToken : ByteArray := prog_5_method_6_code
def yX3_readToken : MethodName := ⟨RX3, "readToken", "()V"⟩
abbrev cX3_isLetter : ByteArray := prog_5_method_7_code
def yX3_isLetter : MethodName := ⟨RX3, "isLetter", "(I)Z"⟩
abbrev cX3_isFigure : ByteArray := prog_5_method_8_code
def yX3_isFigure : MethodName := ⟨RX3, "isFigure", "(I)Z"⟩
abbrev cX3_readRule : ByteArray := prog_5_method_9_code
def yX3_readRule : MethodName := ⟨RX3, "readRule", "()V"⟩
abbrev cX3_readNumber : ByteArray := prog_5_method_10_code
def yX3_readNumber : MethodName := ⟨RX3, "readNumber", "()V"⟩
abbrev cX3_isText : ByteArray := prog_5_method_11_code
def yX3_isText : MethodName := ⟨RX3, "isText", "(Ljava/lang/String;)Z"⟩
abbrev cX3_textOf : ByteArray := prog_5_method_12_code
def yX3_textOf : MethodName := ⟨RX3, "textOf", "(I)Ljava/lang/String;"⟩
def RX4 : String := "ManyNames$Ties"
def TX4 : u_T := fun k => match k with
  | 0 => ("ManyNames$Ties", "first", "[I", true)
  | 1 => ("ManyNames$Ties", "second", "[I", true)
  | 2 => ("ManyNames$Ties", "room", "[I", true)
  | 3 => ("ManyNames$Ties", "kind", "[I", true)
  | 4 => ("ManyNames$Ties", "since", "[I", true)
  | _ => ("ManyNames$Ties", "count", "I", false)
def tyX4 : Nat → FieldType := fun k => match k with
  | 0 => .array .int
  | 1 => .array .int
  | 2 => .array .int
  | 3 => .array .int
  | 4 => .array .int
  | _ => .int
abbrev wsX40 : List Cond := u_ws RX4 TX4 6
theorem nmX4 : ∀ a, a < 6 → ∀ b, b < 6 → a ≠ b → (TX4 a).2.1 ≠ (TX4 b).2.1 := by decide +kernel
theorem tyX4_ok : ∀ k, k < 6 → parseFieldDescriptor (TX4 k).2.2.1 = some (tyX4 k) := by decide +kernel
abbrev cX4_init : ByteArray := prog_6_method_1_code
def yX4_init : MethodName := ⟨RX4, "<init>", "()V"⟩
abbrev cX4_enter : ByteArray := prog_6_method_2_code
def yX4_enter : MethodName := ⟨RX4, "enter", "(IIIII)I"⟩
def RX5 : String := "ManyNames$Words"
def TX5 : u_T := fun k => match k with
  | 0 => ("ManyNames$Words", "sayer", "[I", true)
  | 1 => ("ManyNames$Words", "seller", "[I", true)
  | 2 => ("ManyNames$Words", "deal", "[I", true)
  | 3 => ("ManyNames$Words", "mark", "[I", true)
  | 4 => ("ManyNames$Words", "since", "[I", true)
  | 5 => ("ManyNames$Words", "bothEnds", "[I", true)
  | 6 => ("ManyNames$Words", "firstOfDeal", "[Z", true)
  | _ => ("ManyNames$Words", "count", "I", false)
def tyX5 : Nat → FieldType := fun k => match k with
  | 0 => .array .int
  | 1 => .array .int
  | 2 => .array .int
  | 3 => .array .int
  | 4 => .array .int
  | 5 => .array .int
  | 6 => .array .boolean
  | _ => .int
abbrev wsX50 : List Cond := u_ws RX5 TX5 8
theorem nmX5 : ∀ a, a < 8 → ∀ b, b < 8 → a ≠ b → (TX5 a).2.1 ≠ (TX5 b).2.1 := by decide +kernel
theorem tyX5_ok : ∀ k, k < 8 → parseFieldDescriptor (TX5 k).2.2.1 = some (tyX5 k) := by decide +kernel
abbrev cX5_init : ByteArray := prog_7_method_1_code
def yX5_init : MethodName := ⟨RX5, "<init>", "()V"⟩
abbrev cX5_enter : ByteArray := prog_7_method_2_code
def yX5_enter : MethodName := ⟨RX5, "enter", "(IIIII)I"⟩
abbrev cX5_isNewDeal : ByteArray := prog_7_method_3_code
def yX5_isNewDeal : MethodName := ⟨RX5, "isNewDeal", "(I)Z"⟩
abbrev cX5_countingOf : ByteArray := prog_7_method_4_code
def yX5_countingOf : MethodName := ⟨RX5, "countingOf", "(II)I"⟩
abbrev cX5_doesCount : ByteArray := prog_7_method_5_code
def yX5_doesCount : MethodName := ⟨RX5, "doesCount", "(I)Z"⟩
abbrev cX5_countingOnes : ByteArray := prog_7_method_6_code
def yX5_countingOnes : MethodName := ⟨RX5, "countingOnes", "()I"⟩
def RX6 : String := "ManyNames"
def TX6 : u_T := fun k => match k with
  | 0 => ("ManyNames", "folk", "LManyNames$Folk;", true)
  | 1 => ("ManyNames", "ties", "LManyNames$Ties;", true)
  | 2 => ("ManyNames", "words", "LManyNames$Words;", true)
  | 3 => ("ManyNames", "tape", "LManyNames$Tape;", true)
  | 4 => ("ManyNames", "flow", "LManyNames$Flow;", true)
  | 5 => ("ManyNames", "sheets", "[LManyNames$Sheet;", true)
  | 6 => ("ManyNames", "held", "[I", true)
  | 7 => ("ManyNames", "draft", "[I", true)
  | 8 => ("ManyNames", "weights", "[I", true)
  | 9 => ("ManyNames", "marks", "[I", true)
  | 10 => ("ManyNames", "stakes", "[I", true)
  | 11 => ("ManyNames", "today", "I", false)
  | _ => ("ManyNames", "lostFault", "I", false)
def tyX6 : Nat → FieldType := fun k => match k with
  | 0 => .object "ManyNames$Folk"
  | 1 => .object "ManyNames$Ties"
  | 2 => .object "ManyNames$Words"
  | 3 => .object "ManyNames$Tape"
  | 4 => .object "ManyNames$Flow"
  | 5 => .array (.object "ManyNames$Sheet")
  | 6 => .array .int
  | 7 => .array .int
  | 8 => .array .int
  | 9 => .array .int
  | 10 => .array .int
  | 11 => .int
  | _ => .int
abbrev wsX60 : List Cond := u_ws RX6 TX6 13
theorem nmX6 : ∀ a, a < 13 → ∀ b, b < 13 → a ≠ b → (TX6 a).2.1 ≠ (TX6 b).2.1 := by decide +kernel
theorem tyX6_ok : ∀ k, k < 13 → parseFieldDescriptor (TX6 k).2.2.1 = some (tyX6 k) := by decide +kernel
abbrev cX6_init : ByteArray := prog_1_method_1_code
def yX6_init : MethodName := ⟨RX6, "<init>", "()V"⟩
abbrev cX6_name : ByteArray := prog_1_method_2_code
def yX6_name : MethodName := ⟨RX6, "name", "(I)I"⟩
abbrev cX6_seed : ByteArray := prog_1_method_3_code
def yX6_seed : MethodName := ⟨RX6, "seed", "(IZ)I"⟩
abbrev cX6_pledge : ByteArray := prog_1_method_4_code
def yX6_pledge : MethodName := ⟨RX6, "pledge", "(II)I"⟩
abbrev cX6_tie : ByteArray := prog_1_method_5_code
def yX6_tie : MethodName := ⟨RX6, "tie", "(IIII)I"⟩
abbrev cX6_tieOf : ByteArray := prog_1_method_6_code
def yX6_tieOf : MethodName := ⟨RX6, "tieOf", "(II)I"⟩
abbrev cX6_renew : ByteArray := prog_1_method_7_code
def yX6_renew : MethodName := ⟨RX6, "renew", "(I)I"⟩
abbrev cX6_of : ByteArray := prog_1_method_8_code
def yX6_of : MethodName := ⟨RX6, "of", "(II)I"⟩
abbrev cX6_made : ByteArray := prog_1_method_9_code
def yX6_made : MethodName := ⟨RX6, "made", "(I)I"⟩
abbrev cX6_day : ByteArray := prog_1_method_10_code
def yX6_day : MethodName := ⟨RX6, "day", "(I)I"⟩
abbrev cX6_feed : ByteArray := prog_1_method_11_code
def yX6_feed : MethodName := ⟨RX6, "feed", "(J)I"⟩
abbrev cX6_end : ByteArray := prog_1_method_12_code
def yX6_end : MethodName := ⟨RX6, "end", "(I)I"⟩
abbrev cX6_rules : ByteArray := prog_1_method_13_code
def yX6_rules : MethodName := ⟨RX6, "rules", "()I"⟩
abbrev cX6_fault : ByteArray := prog_1_method_14_code
def yX6_fault : MethodName := ⟨RX6, "fault", "()I"⟩
abbrev cX6_rule : ByteArray := prog_1_method_15_code
def yX6_rule : MethodName := ⟨RX6, "rule", "(I)I"⟩
abbrev cX6_trust : ByteArray := prog_1_method_16_code
def yX6_trust : MethodName := ⟨RX6, "trust", "(I)I"⟩
abbrev cX6_heap : ByteArray := prog_1_method_17_code
def yX6_heap : MethodName := ⟨RX6, "heap", "(I)I"⟩
abbrev cX6_cut : ByteArray := prog_1_method_18_code
def yX6_cut : MethodName := ⟨RX6, "cut", "(II)I"⟩
abbrev cX6_low : ByteArray := prog_1_method_19_code
def yX6_low : MethodName := ⟨RX6, "low", "(I)I"⟩
abbrev cX6_twins : ByteArray := prog_1_method_20_code
def yX6_twins : MethodName := ⟨RX6, "twins", "(I)I"⟩
abbrev cX6_word : ByteArray := prog_1_method_21_code
def yX6_word : MethodName := ⟨RX6, "word", "(IIII)I"⟩
abbrev cX6_wordOf : ByteArray := prog_1_method_22_code
def yX6_wordOf : MethodName := ⟨RX6, "wordOf", "(II)I"⟩
abbrev cX6_weight : ByteArray := prog_1_method_23_code
def yX6_weight : MethodName := ⟨RX6, "weight", "(II)I"⟩
abbrev cX6_sayers : ByteArray := prog_1_method_24_code
def yX6_sayers : MethodName := ⟨RX6, "sayers", "(I)I"⟩
abbrev cX6_mark : ByteArray := prog_1_method_25_code
def yX6_mark : MethodName := ⟨RX6, "mark", "(II)I"⟩
abbrev cX6_span : ByteArray := prog_1_method_26_code
def yX6_span : MethodName := ⟨RX6, "span", "(III)I"⟩
abbrev cX6_ring : ByteArray := prog_1_method_27_code
def yX6_ring : MethodName := ⟨RX6, "ring", "(II)I"⟩
abbrev cX6_odds : ByteArray := prog_1_method_28_code
def yX6_odds : MethodName := ⟨RX6, "odds", "(II)J"⟩
abbrev cX6_oddest : ByteArray := prog_1_method_29_code
def yX6_oddest : MethodName := ⟨RX6, "oddest", "(I)J"⟩
abbrev cX6_gain : ByteArray := prog_1_method_30_code
def yX6_gain : MethodName := ⟨RX6, "gain", "(III)I"⟩
abbrev cX6_best : ByteArray := prog_1_method_31_code
def yX6_best : MethodName := ⟨RX6, "best", "(III)I"⟩
abbrev cX6_sheet : ByteArray := prog_1_method_32_code
def yX6_sheet : MethodName := ⟨RX6, "sheet", "(III)I"⟩
abbrev cX6_lay : ByteArray := prog_1_method_33_code
def yX6_lay : MethodName := ⟨RX6, "lay", "(III)I"⟩
abbrev cX6_read : ByteArray := prog_1_method_34_code
def yX6_read : MethodName := ⟨RX6, "read", "(IIII)I"⟩
abbrev cX6_lost : ByteArray := prog_1_method_35_code
def yX6_lost : MethodName := ⟨RX6, "lost", "()I"⟩
abbrev cX6_count : ByteArray := prog_1_method_36_code
def yX6_count : MethodName := ⟨RX6, "count", "(I)I"⟩
abbrev cX6_within : ByteArray := prog_1_method_37_code
def yX6_within : MethodName := ⟨RX6, "within", "(III)Z"⟩
abbrev cX6_hasBit : ByteArray := prog_1_method_38_code
def yX6_hasBit : MethodName := ⟨RX6, "hasBit", "(II)Z"⟩
abbrev cX6_oneIf : ByteArray := prog_1_method_39_code
def yX6_oneIf : MethodName := ⟨RX6, "oneIf", "(Z)I"⟩
abbrev cX6_isName : ByteArray := prog_1_method_40_code
def yX6_isName : MethodName := ⟨RX6, "isName", "(I)Z"⟩
abbrev cX6_arePair : ByteArray := prog_1_method_41_code
def yX6_arePair : MethodName := ⟨RX6, "arePair", "(II)Z"⟩
abbrev cX6_isHeap : ByteArray := prog_1_method_42_code
def yX6_isHeap : MethodName := ⟨RX6, "isHeap", "(I)Z"⟩
abbrev cX6_isTie : ByteArray := prog_1_method_43_code
def yX6_isTie : MethodName := ⟨RX6, "isTie", "(I)Z"⟩
abbrev cX6_isWord : ByteArray := prog_1_method_44_code
def yX6_isWord : MethodName := ⟨RX6, "isWord", "(I)Z"⟩
abbrev cX6_isSheet : ByteArray := prog_1_method_45_code
def yX6_isSheet : MethodName := ⟨RX6, "isSheet", "(I)Z"⟩
abbrev cX6_isLane : ByteArray := prog_1_method_46_code
def yX6_isLane : MethodName := ⟨RX6, "isLane", "(I)Z"⟩
abbrev cX6_isOffer : ByteArray := prog_1_method_47_code
def yX6_isOffer : MethodName := ⟨RX6, "isOffer", "(II)Z"⟩
abbrev cX6_isFined : ByteArray := prog_1_method_48_code
def yX6_isFined : MethodName := ⟨RX6, "isFined", "(I)Z"⟩
abbrev cX6_isPlain : ByteArray := prog_1_method_49_code
def yX6_isPlain : MethodName := ⟨RX6, "isPlain", "(I)Z"⟩
abbrev cX6_countTrue : ByteArray := prog_1_method_50_code
def yX6_countTrue : MethodName := ⟨RX6, "countTrue", "([Z)I"⟩
abbrev cX6_countFined : ByteArray := prog_1_method_51_code
def yX6_countFined : MethodName := ⟨RX6, "countFined", "()I"⟩
abbrev cX6_standingFor : ByteArray := prog_1_method_52_code
def yX6_standingFor : MethodName := ⟨RX6, "standingFor", "(I)I"⟩
abbrev cX6_pledgeRoom : ByteArray := prog_1_method_53_code
def yX6_pledgeRoom : MethodName := ⟨RX6, "pledgeRoom", "(I)I"⟩
abbrev cX6_givenTo : ByteArray := prog_1_method_54_code
def yX6_givenTo : MethodName := ⟨RX6, "givenTo", "(I)I"⟩
abbrev cX6_faded : ByteArray := prog_1_method_55_code
def yX6_faded : MethodName := ⟨RX6, "faded", "(III)I"⟩
abbrev cX6_hasMadeEnd : ByteArray := prog_1_method_56_code
def yX6_hasMadeEnd : MethodName := ⟨RX6, "hasMadeEnd", "(I)Z"⟩
abbrev cX6_roomOf : ByteArray := prog_1_method_57_code
def yX6_roomOf : MethodName := ⟨RX6, "roomOf", "(I)I"⟩
abbrev cX6_openTies : ByteArray := prog_1_method_58_code
def yX6_openTies : MethodName := ⟨RX6, "openTies", "(I)I"⟩
abbrev cX6_layFlow : ByteArray := prog_1_method_59_code
def yX6_layFlow : MethodName := ⟨RX6, "layFlow", "()V"⟩
abbrev cX6_tiesOutOf : ByteArray := prog_1_method_60_code
def yX6_tiesOutOf : MethodName := ⟨RX6, "tiesOutOf", "(I)I"⟩
abbrev cX6_givenBeyond : ByteArray := prog_1_method_61_code
def yX6_givenBeyond : MethodName := ⟨RX6, "givenBeyond", "(I)I"⟩
abbrev cX6_fillTrusts : ByteArray := prog_1_method_62_code
def yX6_fillTrusts : MethodName := ⟨RX6, "fillTrusts", "()V"⟩
abbrev cX6_refusalOf : ByteArray := prog_1_method_63_code
def yX6_refusalOf : MethodName := ⟨RX6, "refusalOf", "(IIIII)I"⟩
abbrev cX6_sayersOf : ByteArray := prog_1_method_64_code
def yX6_sayersOf : MethodName := ⟨RX6, "sayersOf", "(I)I"⟩
abbrev cX6_weighSayers : ByteArray := prog_1_method_65_code
def yX6_weighSayers : MethodName := ⟨RX6, "weighSayers", "(I)I"⟩
abbrev cX6_summedMarks : ByteArray := prog_1_method_66_code
def yX6_summedMarks : MethodName := ⟨RX6, "summedMarks", "()I"⟩
abbrev cX6_greatestStakes : ByteArray := prog_1_method_67_code
def yX6_greatestStakes : MethodName := ⟨RX6, "greatestStakes", "(IZ)I"⟩
abbrev cX6_inLowest : ByteArray := prog_1_method_68_code
def yX6_inLowest : MethodName := ⟨RX6, "inLowest", "(JJZ)J"⟩
abbrev cX6_commonPart : ByteArray := prog_1_method_69_code
def yX6_commonPart : MethodName := ⟨RX6, "commonPart", "(JJ)J"⟩
abbrev cX6_choose : ByteArray := prog_1_method_70_code
def yX6_choose : MethodName := ⟨RX6, "choose", "(II)J"⟩
abbrev cX6_wordsWithin : ByteArray := prog_1_method_71_code
def yX6_wordsWithin : MethodName := ⟨RX6, "wordsWithin", "(IZ)I"⟩
abbrev cX6_waysOf : ByteArray := prog_1_method_72_code
def yX6_waysOf : MethodName := ⟨RX6, "waysOf", "(II)J"⟩
abbrev cX6_boughtRoom : ByteArray := prog_1_method_73_code
def yX6_boughtRoom : MethodName := ⟨RX6, "boughtRoom", "(I)I"⟩
abbrev cX6_sellingNames : ByteArray := prog_1_method_74_code
def yX6_sellingNames : MethodName := ⟨RX6, "sellingNames", "()I"⟩
abbrev cX6_gainBy : ByteArray := prog_1_method_75_code
def yX6_gainBy : MethodName := ⟨RX6, "gainBy", "(III)I"⟩
def RX7 : String := "ManyNamesModel"
def TX7 : u_T := fun k => match k with
  | 0 => ("ManyNamesModel", "names", "I", false)
  | 1 => ("ManyNamesModel", "price", "[I", true)
  | 2 => ("ManyNamesModel", "isSeed", "[Z", true)
  | 3 => ("ManyNamesModel", "isMade", "[Z", true)
  | 4 => ("ManyNamesModel", "finedTo", "[I", true)
  | 5 => ("ManyNamesModel", "coins", "[I", true)
  | 6 => ("ManyNamesModel", "ties", "I", false)
  | 7 => ("ManyNamesModel", "one", "[I", true)
  | 8 => ("ManyNamesModel", "two", "[I", true)
  | 9 => ("ManyNamesModel", "told", "[I", true)
  | 10 => ("ManyNamesModel", "kind", "[I", true)
  | 11 => ("ManyNamesModel", "since", "[I", true)
  | 12 => ("ManyNamesModel", "today", "I", false)
  | 13 => ("ManyNamesModel", "rules", "[I", true)
  | 14 => ("ManyNamesModel", "draft", "[I", true)
  | 15 => ("ManyNamesModel", "isTold", "[Z", true)
  | 16 => ("ManyNamesModel", "tape", "[I", true)
  | 17 => ("ManyNamesModel", "taped", "I", false)
  | 18 => ("ManyNamesModel", "pos", "I", false)
  | 19 => ("ManyNamesModel", "from", "I", false)
  | 20 => ("ManyNamesModel", "sort", "I", false)
  | 21 => ("ManyNamesModel", "value", "I", false)
  | 22 => ("ManyNamesModel", "fault", "I", false)
  | 23 => ("ManyNamesModel", "wrongAt", "I", false)
  | 24 => ("ManyNamesModel", "left", "[I", true)
  | 25 => ("ManyNamesModel", "by", "[I", true)
  | 26 => ("ManyNamesModel", "row", "[I", true)
  | 27 => ("ManyNamesModel", "words", "I", false)
  | 28 => ("ManyNamesModel", "who", "[I", true)
  | 29 => ("ManyNamesModel", "seller", "[I", true)
  | 30 => ("ManyNamesModel", "deal", "[I", true)
  | 31 => ("ManyNamesModel", "marked", "[I", true)
  | 32 => ("ManyNamesModel", "saidOn", "[I", true)
  | 33 => ("ManyNamesModel", "listed", "I", false)
  | 34 => ("ManyNamesModel", "weights", "[I", true)
  | 35 => ("ManyNamesModel", "marks", "[I", true)
  | 36 => ("ManyNamesModel", "allWeights", "I", false)
  | 37 => ("ManyNamesModel", "allMarks", "I", false)
  | 38 => ("ManyNamesModel", "oddsUp", "J", false)
  | 39 => ("ManyNamesModel", "oddsDown", "J", false)
  | 40 => ("ManyNamesModel", "lanes", "[I", true)
  | 41 => ("ManyNamesModel", "sizes", "[I", true)
  | 42 => ("ManyNamesModel", "cells", "[I", true)
  | _ => ("ManyNamesModel", "lost", "I", false)
def tyX7 : Nat → FieldType := fun k => match k with
  | 0 => .int
  | 1 => .array .int
  | 2 => .array .boolean
  | 3 => .array .boolean
  | 4 => .array .int
  | 5 => .array .int
  | 6 => .int
  | 7 => .array .int
  | 8 => .array .int
  | 9 => .array .int
  | 10 => .array .int
  | 11 => .array .int
  | 12 => .int
  | 13 => .array .int
  | 14 => .array .int
  | 15 => .array .boolean
  | 16 => .array .int
  | 17 => .int
  | 18 => .int
  | 19 => .int
  | 20 => .int
  | 21 => .int
  | 22 => .int
  | 23 => .int
  | 24 => .array .int
  | 25 => .array .int
  | 26 => .array .int
  | 27 => .int
  | 28 => .array .int
  | 29 => .array .int
  | 30 => .array .int
  | 31 => .array .int
  | 32 => .array .int
  | 33 => .int
  | 34 => .array .int
  | 35 => .array .int
  | 36 => .int
  | 37 => .int
  | 38 => .long
  | 39 => .long
  | 40 => .array .int
  | 41 => .array .int
  | 42 => .array .int
  | _ => .int
abbrev wsX70 : List Cond := u_ws RX7 TX7 44
theorem nmX7 : ∀ a, a < 44 → ∀ b, b < 44 → a ≠ b → (TX7 a).2.1 ≠ (TX7 b).2.1 := by decide +kernel
theorem tyX7_ok : ∀ k, k < 44 → parseFieldDescriptor (TX7 k).2.2.1 = some (tyX7 k) := by decide +kernel
abbrev cX7_init : ByteArray := prog_9_method_1_code
def yX7_init : MethodName := ⟨RX7, "<init>", "()V"⟩
abbrev cX7_in : ByteArray := prog_9_method_3_code
def yX7_in : MethodName := ⟨RX7, "in", "(JJJ)Z"⟩
abbrev cX7_bits : ByteArray := prog_9_method_4_code
def yX7_bits : MethodName := ⟨RX7, "bits", "(I)I"⟩
abbrev cX7_common : ByteArray := prog_9_method_5_code
def yX7_common : MethodName := ⟨RX7, "common", "(JJ)J"⟩
abbrev cX7_isName : ByteArray := prog_9_method_6_code
def yX7_isName : MethodName := ⟨RX7, "isName", "(I)Z"⟩
abbrev cX7_isFined : ByteArray := prog_9_method_7_code
def yX7_isFined : MethodName := ⟨RX7, "isFined", "(I)Z"⟩
abbrev cX7_name : ByteArray := prog_9_method_8_code
def yX7_name : MethodName := ⟨RX7, "name", "(I)I"⟩
abbrev cX7_seed : ByteArray := prog_9_method_9_code
def yX7_seed : MethodName := ⟨RX7, "seed", "(IZ)I"⟩
abbrev cX7_pledged : ByteArray := prog_9_method_10_code
def yX7_pledged : MethodName := ⟨RX7, "pledged", "(I)I"⟩
abbrev cX7_pledge : ByteArray := prog_9_method_11_code
def yX7_pledge : MethodName := ⟨RX7, "pledge", "(II)I"⟩
abbrev cX7_tie : ByteArray := prog_9_method_12_code
def yX7_tie : MethodName := ⟨RX7, "tie", "(IIII)I"⟩
abbrev cX7_faded : ByteArray := prog_9_method_13_code
def yX7_faded : MethodName := ⟨RX7, "faded", "(III)I"⟩
abbrev cX7_roomOf : ByteArray := prog_9_method_14_code
def yX7_roomOf : MethodName := ⟨RX7, "roomOf", "(I)I"⟩
abbrev cX7_isTie : ByteArray := prog_9_method_15_code
def yX7_isTie : MethodName := ⟨RX7, "isTie", "(I)Z"⟩
abbrev cX7_tieOf : ByteArray := prog_9_method_16_code
def yX7_tieOf : MethodName := ⟨RX7, "tieOf", "(II)I"⟩
abbrev cX7_renew : ByteArray := prog_9_method_17_code
def yX7_renew : MethodName := ⟨RX7, "renew", "(I)I"⟩
abbrev cX7_given : ByteArray := prog_9_method_18_code
def yX7_given : MethodName := ⟨RX7, "given", "(I)I"⟩
abbrev cX7_of : ByteArray := prog_9_method_19_code
def yX7_of : MethodName := ⟨RX7, "of", "(II)I"⟩
abbrev cX7_made : ByteArray := prog_9_method_20_code
def yX7_made : MethodName := ⟨RX7, "made", "(I)I"⟩
abbrev cX7_day : ByteArray := prog_9_method_21_code
def yX7_day : MethodName := ⟨RX7, "day", "(I)I"⟩
abbrev cX7_firstRules : ByteArray := prog_9_method_22_code
def yX7_firstRules : MethodName := ⟨RX7, "firstRules", "()V"⟩
abbrev cX7_keepRules : ByteArray := prog_9_method_23_code
def yX7_keepRules : MethodName := ⟨RX7, "keepRules", "()V"⟩
abbrev cX7_feed : ByteArray := prog_9_method_24_code
def yX7_feed : MethodName := ⟨RX7, "feed", "(J)I"⟩
abbrev cX7_end : ByteArray := prog_9_method_25_code
def yX7_end : MethodName := ⟨RX7, "end", "(I)I"⟩
abbrev cX7_wants : ByteArray := prog_9_method_26_code
def yX7_wants : MethodName := ⟨RX7, "wants", "(ZI)V"⟩
abbrev cX7_look : ByteArray := prog_9_method_27_code
def yX7_look : MethodName := ⟨RX7, "look", "(I)I"⟩
abbrev cX7_is : ByteArray := prog_9_method_28_code
def yX7_is : MethodName := ⟨RX7, "is", "(IIIII)Z"⟩
abbrev cX7_nameNow : ByteArray := prog_9_method_29_code
def yX7_nameNow : MethodName := ⟨RX7, "nameNow", "()I"⟩
abbrev cX7_next : ByteArray := prog_9_method_30_code
def yX7_next : MethodName := ⟨RX7, "next", "()V"⟩
abbrev cX7_least : ByteArray := prog_9_method_31_code
def yX7_least : MethodName := ⟨RX7, "least", "(I)I"⟩
abbrev cX7_most : ByteArray := prog_9_method_32_code
def yX7_most : MethodName := ⟨RX7, "most", "(I)I"⟩
abbrev cX7_readLine : ByteArray := prog_9_method_33_code
def yX7_readLine : MethodName := ⟨RX7, "readLine", "()V"⟩
abbrev cX7_rules : ByteArray := prog_9_method_34_code
def yX7_rules : MethodName := ⟨RX7, "rules", "()I"⟩
abbrev cX7_fault : ByteArray := prog_9_method_35_code
def yX7_fault : MethodName := ⟨RX7, "fault", "()I"⟩
abbrev cX7_rule : ByteArray := prog_9_method_36_code
def yX7_rule : MethodName := ⟨RX7, "rule", "(I)I"⟩
abbrev cX7_begins : ByteArray := prog_9_method_37_code
def yX7_begins : MethodName := ⟨RX7, "begins", "()V"⟩
abbrev cX7_reaches : ByteArray := prog_9_method_38_code
def yX7_reaches : MethodName := ⟨RX7, "reaches", "()Z"⟩
abbrev cX7_flows : ByteArray := prog_9_method_39_code
def yX7_flows : MethodName := ⟨RX7, "flows", "()I"⟩
abbrev cX7_trustOf : ByteArray := prog_9_method_40_code
def yX7_trustOf : MethodName := ⟨RX7, "trustOf", "(I)I"⟩
abbrev cX7_areNames : ByteArray := prog_9_method_41_code
def yX7_areNames : MethodName := ⟨RX7, "areNames", "(I)Z"⟩
abbrev cX7_trust : ByteArray := prog_9_method_42_code
def yX7_trust : MethodName := ⟨RX7, "trust", "(I)I"⟩
abbrev cX7_heap : ByteArray := prog_9_method_43_code
def yX7_heap : MethodName := ⟨RX7, "heap", "(I)I"⟩
abbrev cX7_cut : ByteArray := prog_9_method_44_code
def yX7_cut : MethodName := ⟨RX7, "cut", "(II)I"⟩
abbrev cX7_isPlain : ByteArray := prog_9_method_45_code
def yX7_isPlain : MethodName := ⟨RX7, "isPlain", "(I)Z"⟩
abbrev cX7_low : ByteArray := prog_9_method_46_code
def yX7_low : MethodName := ⟨RX7, "low", "(I)I"⟩
abbrev cX7_twins : ByteArray := prog_9_method_47_code
def yX7_twins : MethodName := ⟨RX7, "twins", "(I)I"⟩
abbrev cX7_isWord : ByteArray := prog_9_method_48_code
def yX7_isWord : MethodName := ⟨RX7, "isWord", "(IIII)Z"⟩
abbrev cX7_says : ByteArray := prog_9_method_49_code
def yX7_says : MethodName := ⟨RX7, "says", "(IIII)V"⟩
abbrev cX7_word : ByteArray := prog_9_method_50_code
def yX7_word : MethodName := ⟨RX7, "word", "(IIII)I"⟩
abbrev cX7_isFirst : ByteArray := prog_9_method_51_code
def yX7_isFirst : MethodName := ⟨RX7, "isFirst", "(I)Z"⟩
abbrev cX7_counts : ByteArray := prog_9_method_52_code
def yX7_counts : MethodName := ⟨RX7, "counts", "(I)Z"⟩
abbrev cX7_wordOf : ByteArray := prog_9_method_53_code
def yX7_wordOf : MethodName := ⟨RX7, "wordOf", "(II)I"⟩
abbrev cX7_wordBy : ByteArray := prog_9_method_54_code
def yX7_wordBy : MethodName := ⟨RX7, "wordBy", "(II)I"⟩
abbrev cX7_sayersOf : ByteArray := prog_9_method_55_code
def yX7_sayersOf : MethodName := ⟨RX7, "sayersOf", "(I)I"⟩
abbrev cX7_weightOf : ByteArray := prog_9_method_56_code
def yX7_weightOf : MethodName := ⟨RX7, "weightOf", "(II)I"⟩
abbrev cX7_weight : ByteArray := prog_9_method_57_code
def yX7_weight : MethodName := ⟨RX7, "weight", "(II)I"⟩
abbrev cX7_sayers : ByteArray := prog_9_method_58_code
def yX7_sayers : MethodName := ⟨RX7, "sayers", "(I)I"⟩
abbrev cX7_lists : ByteArray := prog_9_method_59_code
def yX7_lists : MethodName := ⟨RX7, "lists", "(I)V"⟩
abbrev cX7_fraction : ByteArray := prog_9_method_60_code
def yX7_fraction : MethodName := ⟨RX7, "fraction", "(II)I"⟩
abbrev cX7_mark : ByteArray := prog_9_method_61_code
def yX7_mark : MethodName := ⟨RX7, "mark", "(II)I"⟩
abbrev cX7_moved : ByteArray := prog_9_method_62_code
def yX7_moved : MethodName := ⟨RX7, "moved", "(IZ)I"⟩
abbrev cX7_span : ByteArray := prog_9_method_63_code
def yX7_span : MethodName := ⟨RX7, "span", "(III)I"⟩
abbrev cX7_isGood : ByteArray := prog_9_method_64_code
def yX7_isGood : MethodName := ⟨RX7, "isGood", "(I)Z"⟩
abbrev cX7_isBetween : ByteArray := prog_9_method_65_code
def yX7_isBetween : MethodName := ⟨RX7, "isBetween", "(II)Z"⟩
abbrev cX7_ringOf : ByteArray := prog_9_method_66_code
def yX7_ringOf : MethodName := ⟨RX7, "ringOf", "(II)I"⟩
abbrev cX7_ring : ByteArray := prog_9_method_67_code
def yX7_ring : MethodName := ⟨RX7, "ring", "(II)I"⟩
abbrev cX7_ways : ByteArray := prog_9_method_68_code
def yX7_ways : MethodName := ⟨RX7, "ways", "(II)J"⟩
abbrev cX7_findOdds : ByteArray := prog_9_method_69_code
def yX7_findOdds : MethodName := ⟨RX7, "findOdds", "(I)V"⟩
abbrev cX7_odds : ByteArray := prog_9_method_70_code
def yX7_odds : MethodName := ⟨RX7, "odds", "(II)J"⟩
abbrev cX7_oddest : ByteArray := prog_9_method_71_code
def yX7_oddest : MethodName := ⟨RX7, "oddest", "(I)J"⟩
abbrev cX7_sells : ByteArray := prog_9_method_72_code
def yX7_sells : MethodName := ⟨RX7, "sells", "(I)Z"⟩
abbrev cX7_gainOf : ByteArray := prog_9_method_73_code
def yX7_gainOf : MethodName := ⟨RX7, "gainOf", "(III)I"⟩
abbrev cX7_sellers : ByteArray := prog_9_method_74_code
def yX7_sellers : MethodName := ⟨RX7, "sellers", "()I"⟩
abbrev cX7_gain : ByteArray := prog_9_method_75_code
def yX7_gain : MethodName := ⟨RX7, "gain", "(III)I"⟩
abbrev cX7_best : ByteArray := prog_9_method_76_code
def yX7_best : MethodName := ⟨RX7, "best", "(III)I"⟩
abbrev cX7_isSheet : ByteArray := prog_9_method_77_code
def yX7_isSheet : MethodName := ⟨RX7, "isSheet", "(II)Z"⟩
abbrev cX7_sheet : ByteArray := prog_9_method_78_code
def yX7_sheet : MethodName := ⟨RX7, "sheet", "(III)I"⟩
abbrev cX7_lay : ByteArray := prog_9_method_79_code
def yX7_lay : MethodName := ⟨RX7, "lay", "(III)I"⟩
abbrev cX7_refuses : ByteArray := prog_9_method_80_code
def yX7_refuses : MethodName := ⟨RX7, "refuses", "(IIJ)I"⟩
abbrev cX7_read : ByteArray := prog_9_method_81_code
def yX7_read : MethodName := ⟨RX7, "read", "(IIII)I"⟩
abbrev cX7_lost : ByteArray := prog_9_method_82_code
def yX7_lost : MethodName := ⟨RX7, "lost", "()I"⟩
abbrev cX7_count : ByteArray := prog_9_method_83_code
def yX7_count : MethodName := ⟨RX7, "count", "(I)I"⟩
def RJ6 : String := "java/lang/Integer"
def TJ6 : u_T := fun k => match k with
  | _ => ("", "", "", false)
def tyJ6 : Nat → FieldType := fun k => match k with
  | _ => .int
abbrev wsJ60 : List Cond := u_ws RJ6 TJ6 0
theorem nmJ6 : ∀ a, a < 0 → ∀ b, b < 0 → a ≠ b → (TJ6 a).2.1 ≠ (TJ6 b).2.1 := by decide +kernel
theorem tyJ6_ok : ∀ k, k < 0 → parseFieldDescriptor (TJ6 k).2.2.1 = some (tyJ6 k) := by decide +kernel
abbrev cJ6_bitCount_0f7a4 : ByteArray := prog_10_method_49_code
def yJ6_bitCount_0f7a4 : MethodName := ⟨RJ6, "bitCount", "(I)I"⟩
def RJ9 : String := "java/lang/Math"
def TJ9 : u_T := fun k => match k with
  | _ => ("", "", "", false)
def tyJ9 : Nat → FieldType := fun k => match k with
  | _ => .int
abbrev wsJ90 : List Cond := u_ws RJ9 TJ9 0
theorem nmJ9 : ∀ a, a < 0 → ∀ b, b < 0 → a ≠ b → (TJ9 a).2.1 ≠ (TJ9 b).2.1 := by decide +kernel
theorem tyJ9_ok : ∀ k, k < 0 → parseFieldDescriptor (TJ9 k).2.2.1 = some (tyJ9 k) := by decide +kernel
abbrev cJ9_max_7cf53 : ByteArray := prog_11_method_65_code
def yJ9_max_7cf53 : MethodName := ⟨RJ9, "max", "(II)I"⟩
abbrev cJ9_max_f86c9 : ByteArray := prog_11_method_66_code
def yJ9_max_f86c9 : MethodName := ⟨RJ9, "max", "(JJ)J"⟩
abbrev cJ9_min_7cf53 : ByteArray := prog_11_method_69_code
def yJ9_min_7cf53 : MethodName := ⟨RJ9, "min", "(II)I"⟩
def RJ0 : String := "java/lang/String"
def TJ0 : u_T := fun k => match k with
  | _ => ("", "", "", false)
def tyJ0 : Nat → FieldType := fun k => match k with
  | _ => .int
abbrev wsJ00 : List Cond := u_ws RJ0 TJ0 0
theorem nmJ0 : ∀ a, a < 0 → ∀ b, b < 0 → a ≠ b → (TJ0 a).2.1 ≠ (TJ0 b).2.1 := by decide +kernel
theorem tyJ0_ok : ∀ k, k < 0 → parseFieldDescriptor (TJ0 k).2.2.1 = some (tyJ0 k) := by decide +kernel
abbrev cJ0_length_8abf5 : ByteArray := prog_12_method_54_code
def yJ0_length_8abf5 : MethodName := ⟨RJ0, "length", "()I"⟩
abbrev cJ0_charAt_5068e : ByteArray := prog_12_method_56_code
def yJ0_charAt_5068e : MethodName := ⟨RJ0, "charAt", "(I)C"⟩
abbrev cJ0_coder_7d493 : ByteArray := prog_12_method_152_code
def yJ0_coder_7d493 : MethodName := ⟨RJ0, "coder", "()B"⟩
abbrev cJ0_isLatin1_aae02 : ByteArray := prog_12_method_154_code
def yJ0_isLatin1_aae02 : MethodName := ⟨RJ0, "isLatin1", "()Z"⟩
abbrev cJ0_checkIndex_df160 : ByteArray := prog_12_method_155_code
def yJ0_checkIndex_df160 : MethodName := ⟨RJ0, "checkIndex", "(II)V"⟩
def RJ1 : String := "java/lang/StringLatin1"
def TJ1 : u_T := fun k => match k with
  | _ => ("", "", "", false)
def tyJ1 : Nat → FieldType := fun k => match k with
  | _ => .int
abbrev wsJ10 : List Cond := u_ws RJ1 TJ1 0
theorem nmJ1 : ∀ a, a < 0 → ∀ b, b < 0 → a ≠ b → (TJ1 a).2.1 ≠ (TJ1 b).2.1 := by decide +kernel
theorem tyJ1_ok : ∀ k, k < 0 → parseFieldDescriptor (TJ1 k).2.2.1 = some (tyJ1 k) := by decide +kernel
abbrev cJ1_charAt_3b067 : ByteArray := prog_13_method_2_code
def yJ1_charAt_3b067 : MethodName := ⟨RJ1, "charAt", "([BI)C"⟩
def RJ2 : String := "java/lang/StringUTF16"
def TJ2 : u_T := fun k => match k with
  | _ => ("", "", "", false)
def tyJ2 : Nat → FieldType := fun k => match k with
  | _ => .int
abbrev wsJ20 : List Cond := u_ws RJ2 TJ2 0
theorem nmJ2 : ∀ a, a < 0 → ∀ b, b < 0 → a ≠ b → (TJ2 a).2.1 ≠ (TJ2 b).2.1 := by decide +kernel
theorem tyJ2_ok : ∀ k, k < 0 → parseFieldDescriptor (TJ2 k).2.2.1 = some (tyJ2 k) := by decide +kernel
abbrev cJ2_getChar_3b067 : ByteArray := prog_14_method_5_code
def yJ2_getChar_3b067 : MethodName := ⟨RJ2, "getChar", "([BI)C"⟩
abbrev cJ2_length_9d52b : ByteArray := prog_14_method_6_code
def yJ2_length_9d52b : MethodName := ⟨RJ2, "length", "([B)I"⟩
abbrev cJ2_charAt_3b067 : ByteArray := prog_14_method_83_code
def yJ2_charAt_3b067 : MethodName := ⟨RJ2, "charAt", "([BI)C"⟩
abbrev cJ2_checkIndex_2214a : ByteArray := prog_14_method_91_code
def yJ2_checkIndex_2214a : MethodName := ⟨RJ2, "checkIndex", "(I[B)V"⟩
def RJ10 : String := "java/lang/System"
def TJ10 : u_T := fun k => match k with
  | _ => ("", "", "", false)
def tyJ10 : Nat → FieldType := fun k => match k with
  | _ => .int
abbrev wsJ100 : List Cond := u_ws RJ10 TJ10 0
theorem nmJ10 : ∀ a, a < 0 → ∀ b, b < 0 → a ≠ b → (TJ10 a).2.1 ≠ (TJ10 b).2.1 := by decide +kernel
theorem tyJ10_ok : ∀ k, k < 0 → parseFieldDescriptor (TJ10 k).2.2.1 = some (tyJ10 k) := by decide +kernel
def RJ7 : String := "java/util/Arrays"
def TJ7 : u_T := fun k => match k with
  | _ => ("", "", "", false)
def tyJ7 : Nat → FieldType := fun k => match k with
  | _ => .int
abbrev wsJ70 : List Cond := u_ws RJ7 TJ7 0
theorem nmJ7 : ∀ a, a < 0 → ∀ b, b < 0 → a ≠ b → (TJ7 a).2.1 ≠ (TJ7 b).2.1 := by decide +kernel
theorem tyJ7_ok : ∀ k, k < 0 → parseFieldDescriptor (TJ7 k).2.2.1 = some (tyJ7 k) := by decide +kernel
abbrev cJ7_fill_53178 : ByteArray := prog_16_method_103_code
def yJ7_fill_53178 : MethodName := ⟨RJ7, "fill", "([II)V"⟩
def RJ3 : String := "jdk/internal/util/Preconditions"
def TJ3 : u_T := fun k => match k with
  | _ => ("", "", "", false)
def tyJ3 : Nat → FieldType := fun k => match k with
  | _ => .int
abbrev wsJ30 : List Cond := u_ws RJ3 TJ3 0
theorem nmJ3 : ∀ a, a < 0 → ∀ b, b < 0 → a ≠ b → (TJ3 a).2.1 ≠ (TJ3 b).2.1 := by decide +kernel
theorem tyJ3_ok : ∀ k, k < 0 → parseFieldDescriptor (TJ3 k).2.2.1 = some (tyJ3 k) := by decide +kernel
abbrev cJ3_checkIndex_8e157 : ByteArray := prog_17_method_11_code
def yJ3_checkIndex_8e157 : MethodName := ⟨RJ3, "checkIndex", "(IILjava/util/function/BiFunction;)I"⟩
def RL : String := "ManyNamesLaw"
abbrev cL_law : ByteArray := code
def yL_law : MethodName := ⟨RL, "law", "([I)Z"⟩
abbrev vwCl : List vw_C := [(RX0, TX0, 7), (RX1, TX1, 6), (RX2, TX2, 3), (RX3, TX3, 8), (RX4, TX4, 6), (RX5, TX5, 8), (RX6, TX6, 13), (RX7, TX7, 44)]
theorem inX0 : ∀ w ∈ wsX00, w ∈ lw_tbl := by decide +kernel
theorem inX1 : ∀ w ∈ wsX10, w ∈ lw_tbl := by decide +kernel
theorem inX2 : ∀ w ∈ wsX20, w ∈ lw_tbl := by decide +kernel
theorem inX3 : ∀ w ∈ wsX30, w ∈ lw_tbl := by decide +kernel
theorem inX4 : ∀ w ∈ wsX40, w ∈ lw_tbl := by decide +kernel
theorem inX5 : ∀ w ∈ wsX50, w ∈ lw_tbl := by decide +kernel
theorem inX6 : ∀ w ∈ wsX60, w ∈ lw_tbl := by decide +kernel
theorem inX7 : ∀ w ∈ wsX70, w ∈ lw_tbl := by decide +kernel
end
section
/-! THE WALKER. The cells of the system are fixed once its constructor has ended, and no reference ever changes: so a state is numbers alone.
SP: what a cell is (0: a row of ints, 1: of booleans, 2: of references, c + 3: an object of class c; its length; its fields: 0 int, 1 long, r + 2 the cell r).
HS: what the cells hold: (cell, place) to an int, (cell, place) to a long. Geo: the tables' numbers, the cells' addresses, the classes of rows. -/
abbrev SP : Type := Nat × Nat × List Nat
abbrev HS : Type := (Nat → Nat → Int32) × (Nat → Nat → Int64)
abbrev Geo : Type := va_G × (Nat → Nat) × ClassId × ClassId × ClassId
def aw_fv (g : Geo) (h : HS) (i j f : Nat) : Value := match f with
  | 0 => .int (h.1 i j)
  | 1 => .long (h.2 i j)
  | r + 2 => .ref (g.2.1 r)
def aw_fs (g : Geo) (h : HS) (i : Nat) : Nat → List Nat → List Value
  | _, [] => []
  | j, f :: r => aw_fv g h i j f :: aw_fs g h i (j + 1) r
def aw_ce (g : Geo) (h : HS) (i : Nat) (sp : SP) : va_E := match sp.1 with
  | 0 => .inl (g.2.2.1, sp.2.1, .inl (h.1 i))
  | 1 => .inl (g.2.2.2.1, sp.2.1, .inl (h.1 i))
  | 2 => .inl (g.2.2.2.2, sp.2.1, .inr (.inr (.inr (.inr (fun k => (sp.2.2[k]?).map g.2.1)))))
  | c + 3 => .inr (c, aw_fs g h i 0 sp.2.2)
def aw_cz (g : Geo) (h : HS) : Nat → List SP → va_W
  | _, [] => []
  | i, sp :: r => (g.2.1 i, aw_ce g h i sp) :: aw_cz g h (i + 1) r
theorem aw_cz_get (g : Geo) (h : HS) : ∀ (lay : List SP) (b i : Nat), (aw_cz g h b lay)[i]? = (lay[i]?).map (fun sp => (g.2.1 (b + i), aw_ce g h (b + i) sp))
  | [], b, i => by simp [aw_cz]
  | sp :: r, b, 0 => by simp [aw_cz]
  | sp :: r, b, i + 1 => by
    simp only [aw_cz, List.getElem?_cons_succ]
    rw [aw_cz_get g h r (b + 1) i, show b + 1 + i = b + (i + 1) by omega]
theorem aw_cz_at {g : Geo} {h : HS} {lay : List SP} {i : Nat} {sp : SP} (hi : lay[i]? = some sp) : (aw_cz g h 0 lay)[i]? = some (g.2.1 i, aw_ce g h i sp) := by
  rw [aw_cz_get, hi, Nat.zero_add]
  rfl
theorem aw_fs_get (g : Geo) (h : HS) (i : Nat) : ∀ (fs : List Nat) (b j : Nat), (aw_fs g h i b fs)[j]? = (fs[j]?).map (fun f => aw_fv g h i (b + j) f)
  | [], b, j => by simp [aw_fs]
  | f :: r, b, 0 => by simp [aw_fs]
  | f :: r, b, j + 1 => by
    simp only [aw_fs, List.getElem?_cons_succ]
    rw [aw_fs_get g h i r (b + 1) j, show b + 1 + j = b + (j + 1) by omega]
theorem aw_fs_at {g : Geo} {h : HS} {i j f : Nat} {fs : List Nat} (hj : fs[j]? = some f) : (aw_fs g h i 0 fs)[j]? = some (aw_fv g h i j f) := by
  rw [aw_fs_get, hj, Nat.zero_add]
  rfl
theorem aw_fv_congr {g : Geo} {h h' : HS} {i j f : Nat} (h1 : h'.1 i = h.1 i) (h2 : h'.2 i = h.2 i) : aw_fv g h' i j f = aw_fv g h i j f := by
  unfold aw_fv
  split <;> simp [h1, h2]
theorem aw_fs_congr {g : Geo} {h h' : HS} {i : Nat} (h1 : h'.1 i = h.1 i) (h2 : h'.2 i = h.2 i) : ∀ (fs : List Nat) (b : Nat), aw_fs g h' i b fs = aw_fs g h i b fs
  | [], b => rfl
  | f :: r, b => by simp only [aw_fs, aw_fv_congr h1 h2, aw_fs_congr h1 h2 r (b + 1)]
theorem aw_ce_congr {g : Geo} {h h' : HS} {i : Nat} {sp : SP} (h1 : h'.1 i = h.1 i) (h2 : h'.2 i = h.2 i) : aw_ce g h' i sp = aw_ce g h i sp := by
  obtain ⟨k, n, fs⟩ := sp
  match k with
  | 0 => simp [aw_ce, h1]
  | 1 => simp [aw_ce, h1]
  | 2 => rfl
  | c + 3 => simp only [aw_ce, aw_fs_congr h1 h2]
def setR (h : HS) (i : Nat) (f : Nat → Int32) : HS := (fun a => if a = i then f else h.1 a, h.2)
def setI (h : HS) (i j : Nat) (v : Int32) : HS := setR h i (upd (h.1 i) j v)
def setL (h : HS) (i j : Nat) (v : Int64) : HS := (h.1, fun a => if a = i then vp_updL (h.2 i) j v else h.2 a)
theorem aw_cz_set {g : Geo} {h h' : HS} {lay : List SP} {i : Nat} {sp : SP} (hi : lay[i]? = some sp) (ho : ∀ a, a ≠ i → h'.1 a = h.1 a ∧ h'.2 a = h.2 a) : aw_cz g h' 0 lay = (aw_cz g h 0 lay).set i (g.2.1 i, aw_ce g h' i sp) := by
  apply List.ext_getElem?
  intro j
  by_cases hj : j = i
  · subst hj
    rw [aw_cz_at hi, List.getElem?_set_self]
    have := aw_cz_at (g := g) (h := h) hi
    exact (List.getElem?_eq_some_iff.mp this).1
  · rw [List.getElem?_set_ne (Ne.symm hj), aw_cz_get, aw_cz_get]
    cases lay[j]? with
    | none => rfl
    | some q =>
      simp only [Option.map_some, Nat.zero_add]
      rw [aw_ce_congr (ho j hj).1 (ho j hj).2]
theorem aw_fs_setI {g : Geo} {h : HS} {i j : Nat} {v : Int32} {fs : List Nat} (hj : fs[j]? = some 0) : aw_fs g (setI h i j v) i 0 fs = (aw_fs g h i 0 fs).set j (.int v) := by
  apply List.ext_getElem?
  intro k
  by_cases hk : k = j
  · subst hk
    rw [aw_fs_at hj, List.getElem?_set_self (by have := aw_fs_at (g := g) (h := h) (i := i) hj; exact (List.getElem?_eq_some_iff.mp this).1)]
    simp [aw_fv, setI, setR, upd]
  · rw [List.getElem?_set_ne (Ne.symm hk), aw_fs_get, aw_fs_get]
    cases fs[k]? with
    | none => rfl
    | some f =>
      simp only [Option.map_some, Nat.zero_add]
      congr 1
      unfold aw_fv
      split
      · simp [setI, setR, upd, hk]
      · simp [setI, setR]
      · rfl
theorem aw_fs_setL {g : Geo} {h : HS} {i j : Nat} {v : Int64} {fs : List Nat} (hj : fs[j]? = some 1) : aw_fs g (setL h i j v) i 0 fs = (aw_fs g h i 0 fs).set j (.long v) := by
  apply List.ext_getElem?
  intro k
  by_cases hk : k = j
  · subst hk
    rw [aw_fs_at hj, List.getElem?_set_self (by have := aw_fs_at (g := g) (h := h) (i := i) hj; exact (List.getElem?_eq_some_iff.mp this).1)]
    simp [aw_fv, setL, vp_updL]
  · rw [List.getElem?_set_ne (Ne.symm hk), aw_fs_get, aw_fs_get]
    cases fs[k]? with
    | none => rfl
    | some f =>
      simp only [Option.map_some, Nat.zero_add]
      congr 1
      unfold aw_fv
      split
      · simp [setL]
      · simp [setL, vp_updL, hk]
      · rfl
theorem setR_o {h : HS} {i : Nat} {f : Nat → Int32} (a : Nat) (ha : a ≠ i) : (setR h i f).1 a = h.1 a ∧ (setR h i f).2 a = h.2 a := by simp [setR, ha]
theorem setI_o {h : HS} {i j : Nat} {v : Int32} (a : Nat) (ha : a ≠ i) : (setI h i j v).1 a = h.1 a ∧ (setI h i j v).2 a = h.2 a := setR_o a ha
theorem setL_o {h : HS} {i j : Nat} {v : Int64} (a : Nat) (ha : a ≠ i) : (setL h i j v).1 a = h.1 a ∧ (setL h i j v).2 a = h.2 a := by simp [setL, ha]
/-! the locals: none is a place of which nothing is known -/
def aw_lh (la : Array Slot) (nL : Nat) (L : List (Option Value)) : Prop := la.size = nL ∧ lv_wf la ∧ ∀ (i : Nat) (v : Value), L[i]? = some (some v) → la[i]? = some (.val v)
def aw_ac : Nat → List (Option Value) → List (Nat × Value)
  | _, [] => []
  | b, none :: r => aw_ac (b + 1) r
  | b, some v :: r => (b, v) :: aw_ac (b + 1) r
theorem aw_ac_mem : ∀ (L : List (Option Value)) (b : Nat) (q : Nat × Value), q ∈ aw_ac b L ↔ ∃ k, q.1 = b + k ∧ L[k]? = some (some q.2)
  | [], b, q => by simp [aw_ac]
  | none :: r, b, q => by
    simp only [aw_ac, aw_ac_mem r (b + 1) q]
    constructor
    · rintro ⟨k, h1, h2⟩
      exact ⟨k + 1, by omega, by simpa using h2⟩
    · rintro ⟨k, h1, h2⟩
      cases k with
      | zero => simp at h2
      | succ k => exact ⟨k, by omega, by simpa using h2⟩
  | some v :: r, b, q => by
    simp only [aw_ac, List.mem_cons, aw_ac_mem r (b + 1) q]
    constructor
    · rintro (h | ⟨k, h1, h2⟩)
      · exact ⟨0, by rw [h]; rfl, by rw [h]; rfl⟩
      · exact ⟨k + 1, by omega, by simpa using h2⟩
    · rintro ⟨k, h1, h2⟩
      cases k with
      | zero =>
        left
        obtain ⟨q1, q2⟩ := q
        simp at h1 h2
        simp [h1, h2]
      | succ k => exact Or.inr ⟨k, by omega, by simpa using h2⟩
theorem aw_lh_has {la : Array Slot} {nL : Nat} {L : List (Option Value)} (h : aw_lh la nL L) : lv_has la nL (aw_ac 0 L) := by
  refine ⟨h.1, h.2.1, fun q hq => ?_⟩
  obtain ⟨k, h1, h2⟩ := (aw_ac_mem L 0 q).mp hq
  rw [h1, Nat.zero_add]
  exact h.2.2 k q.2 h2
def aw_c1 (o : Option Value) : Bool := match o with
  | none => true
  | some v => v.category == 1
theorem aw_set1 {la : Array Slot} {nL i : Nat} {v : Value} {L : List (Option Value)} {lv : List (Nat × Value)} (h : lv_has la nL ((i, v) :: lv.filter (fun q => !(q.1 == i) && !(q.1 + 1 == i && q.2.category == 2)))) (hlv : ∀ (j : Nat) (w : Value), L[j]? = some (some w) → (j, w) ∈ lv)
    (hp : ∀ (j : Nat) (o : Option Value), j + 1 = i → L[j]? = some o → aw_c1 o = true) : aw_lh la nL (L.set i (some v)) := by
  refine ⟨h.1, h.2.1, fun j w hj => ?_⟩
  by_cases hji : j = i
  · subst hji
    have hlt : j < L.length := by
      have := (List.getElem?_eq_some_iff.mp hj).1
      simpa using this
    rw [List.getElem?_set_self hlt] at hj
    cases hj
    exact h.2.2 (j, v) List.mem_cons_self
  · rw [List.getElem?_set_ne (Ne.symm hji)] at hj
    refine h.2.2 (j, w) (List.mem_cons_of_mem _ (List.mem_filter.mpr ⟨hlv j w hj, ?_⟩))
    have h1 : (j == i) = false := by simpa using hji
    by_cases hq : j + 1 = i
    · have hc := hp j _ hq hj
      have hc2 : (w.category == 2) = false := by
        simp only [aw_c1, beq_iff_eq] at hc
        simp [hc]
      simp [h1, hc2]
    · have h2 : (j + 1 == i) = false := by simpa using hq
      simp [h1, h2]
theorem aw_set2 {la : Array Slot} {nL i : Nat} {v : Value} {L : List (Option Value)} {lv : List (Nat × Value)} (h : lv_has la nL ((i, v) :: lv.filter (fun q => !(q.1 == i) && (!(q.1 == i + 1) && !(q.1 + 1 == i && q.2.category == 2))))) (hlv : ∀ (j : Nat) (w : Value), L[j]? = some (some w) → (j, w) ∈ lv)
    (hp : ∀ (j : Nat) (o : Option Value), j + 1 = i → L[j]? = some o → aw_c1 o = true) : aw_lh la nL ((L.set i (some v)).set (i + 1) none) := by
  refine ⟨h.1, h.2.1, fun j w hj => ?_⟩
  by_cases hj1 : j = i + 1
  · subst hj1
    have hlt : i + 1 < (L.set i (some v)).length := by
      have := (List.getElem?_eq_some_iff.mp hj).1
      simpa using this
    rw [List.getElem?_set_self hlt] at hj
    cases hj
  rw [List.getElem?_set_ne (Ne.symm hj1)] at hj
  by_cases hji : j = i
  · subst hji
    have hlt : j < L.length := by
      have := (List.getElem?_eq_some_iff.mp hj).1
      simpa using this
    rw [List.getElem?_set_self hlt] at hj
    cases hj
    exact h.2.2 (j, v) List.mem_cons_self
  · rw [List.getElem?_set_ne (Ne.symm hji)] at hj
    refine h.2.2 (j, w) (List.mem_cons_of_mem _ (List.mem_filter.mpr ⟨hlv j w hj, ?_⟩))
    have h1 : (j == i) = false := by simpa using hji
    have h3 : (j == i + 1) = false := by simpa using hj1
    by_cases hq : j + 1 = i
    · have hc := hp j _ hq hj
      have hc2 : (w.category == 2) = false := by
        simp only [aw_c1, beq_iff_eq] at hc
        simp [hc]
      simp [h1, h3, hc2]
    · have h2 : (j + 1 == i) = false := by simpa using hq
      simp [h1, h3, h2]
theorem aw_ac_of {L : List (Option Value)} {j : Nat} {w : Value} (h : L[j]? = some (some w)) : (j, w) ∈ aw_ac 0 L := (aw_ac_mem L 0 (j, w)).mpr ⟨j, by simp, h⟩
/-- a method's locals at its start -/
def aw_en : List Value → List (Option Value)
  | [] => []
  | v :: r => if v.category = 2 then some v :: none :: aw_en r else some v :: aw_en r
theorem aw_en_mem : ∀ (vs : List Value) (b j : Nat) (w : Value), (aw_en vs)[j]? = some (some w) → (b + j, w) ∈ lv_args b vs
  | [], b, j, w, h => by simp [aw_en] at h
  | v :: r, b, j, w, h => by
    by_cases hc : v.category = 2
    · simp only [aw_en, hc, if_true] at h
      simp only [lv_args, hc, if_true]
      match j, h with
      | 0, h => simp at h; simp [h]
      | 1, h => simp at h
      | j + 2, h =>
        have := aw_en_mem r (b + 2) j w (by simpa using h)
        rw [show b + (j + 2) = b + 2 + j by omega]
        exact List.mem_cons_of_mem _ this
    · simp only [aw_en, hc, if_false] at h
      simp only [lv_args, hc, if_false]
      match j, h with
      | 0, h => simp at h; simp [h]
      | j + 1, h =>
        have := aw_en_mem r (b + 1) j w (by simpa using h)
        rw [show b + (j + 1) = b + 1 + j by omega]
        exact List.mem_cons_of_mem _ this
/-! the tables' words: one list for all methods -/
def aw_tb : List Cond := lw_tbl.filter goodWord
abbrev MI : Type := MethodName × ByteArray × Nat × Option FieldType
def aw_ws (mi : MI) : List Cond := .code mi.1 mi.2.1 mi.2.2.1 mi.2.2.2 :: aw_tb
def aw_rm (d : Nat) : Room := { frames := d, cells := 0, slots := 0, locals := 36 * d }
theorem aw_good {w : Cond} (h : w ∈ aw_tb) : (w.onTables && w.keeps) = true ∨ ∃ ty, w = .arrayClass ty := good_of_word (List.mem_filter.mp h).2
theorem aw_in {w : Cond} (i : Nat) (h : lw_tbl[i]? = some w) (hg : goodWord w = true) : w ∈ aw_tb := List.mem_filter.mpr ⟨List.mem_of_getElem? h, hg⟩
theorem aw_goodIn {mi mi' : MI} (h : Cond.code mi'.1 mi'.2.1 mi'.2.2.1 mi'.2.2.2 ∈ aw_tb) : GoodIn (aw_ws mi) (aw_ws mi') := by
  intro w hw
  rcases List.mem_cons.mp hw with rfl | hw
  · exact ⟨List.mem_cons_of_mem _ h, aw_good h⟩
  · exact ⟨List.mem_cons_of_mem _ hw, aw_good hw⟩
/-! words of nest mates, and the static rows -/
def aw_nw (w : Cond) : Bool := match w with
  | .fieldLinkNest .. => true
  | .methodLinkNest .. => true
  | _ => false
def aw_N (U : State) : Prop := ∀ w ∈ lw_tbl, aw_nw w = true → va_Nw w U
theorem aw_N.warm {s U : State} (hW : s.WarmedH U.vm) (h : aw_N s) : aw_N U := by
  intro w hw hn
  have := h w hw hn
  cases w <;> first | exact va_Nw.warmF hW this | exact va_Nw.warmM hW this | cases hn
theorem aw_N.same {s U : State} (hv : s.vm = U.vm) (h : aw_N s) : aw_N U := by
  intro w hw hn
  have := h w hw hn
  refine va_Nw.same ?_ hv this
  cases w <;> first | rfl | cases hn
theorem aw_N.of {args : Array Value} {s : State} (hts : ∀ w ∈ lw_tbl, w.before args s = true) : aw_N s := by
  intro w hw hn
  refine va_Nw.of ?_ (hts w hw)
  cases w <;> first | rfl | cases hn
def aw_r0 (j : Nat) : Int32 := ([100, 80, 50, 0, 10, 20, 100, 10, 100, 8] : List Int32).getD j 0
def aw_r1 (j : Nat) : Int32 := ([0, 0, 0, 0, 0, 0, 1, 0, 0, 1] : List Int32).getD j 0
def aw_r2 (j : Nat) : Int32 := ([100, 100, 100, 100, 100, 100, 999, 100, 999, 10] : List Int32).getD j 0
def aw_Z1 (n : String) (f : Nat → Int32) (t : Nat) (A : Nat → Prop) (U : State) (H : Heap) : Prop := va_Z "ManyNames" n "[I" (.ref t) A U H ∧ va_X t 10 f U H ∧ t < H.size ∧ ¬ A t
theorem aw_Z1.go {n : String} {f : Nat → Int32} {t : Nat} {A B : Nat → Prop} {s U : State} {H : Heap} (h : aw_Z1 n f t A s s.heap) (hvm : s.vm.Alike U.vm) (hH : s.heap.size ≤ H.size) (hq : ∀ a : Nat, a < s.heap.size → ¬ A a → H[a]? = s.heap[a]?) (hAB : ∀ q, B q → A q) : aw_Z1 n f t B U H :=
  ⟨((h.1.moved hvm).kept hq).narrow hAB, (h.2.1.moved hvm).kept (hq t h.2.2.1 h.2.2.2), Nat.lt_of_lt_of_le h.2.2.1 hH, fun z => h.2.2.2 (hAB _ z)⟩
def aw_Z (sta : Nat → Nat) (A : Nat → Prop) (U : State) (H : Heap) : Prop := aw_Z1 "RULES_AT_FIRST" aw_r0 (sta 0) A U H ∧ aw_Z1 "RULES_LEAST" aw_r1 (sta 1) A U H ∧ aw_Z1 "RULES_MOST" aw_r2 (sta 2) A U H
theorem aw_Z.go {sta : Nat → Nat} {A B : Nat → Prop} {s U : State} {H : Heap} (h : aw_Z sta A s s.heap) (hvm : s.vm.Alike U.vm) (hH : s.heap.size ≤ H.size) (hq : ∀ a : Nat, a < s.heap.size → ¬ A a → H[a]? = s.heap[a]?) (hAB : ∀ q, B q → A q) : aw_Z sta B U H :=
  ⟨h.1.go hvm hH hq hAB, h.2.1.go hvm hH hq hAB, h.2.2.go hvm hH hq hAB⟩
/-! a world, a contract, a walk -/
abbrev WT : Type := Launch × Geo × List SP × (Nat → Nat)
abbrev KT : Type := Program × Env × State × MethodId × Array Value × List Frame × Method × Code × (Nat → Prop)
def aw_tys (g : Geo) : List (ClassId × FieldType) := [(g.2.2.1, .int), (g.2.2.2.1, .boolean), (g.2.2.2.2, .object "ManyNames$Sheet")]
abbrev aw_w (w : WT) (h : HS) : va_W := aw_cz w.2.1 h 0 w.2.2.1
def aw_Q (w : WT) (A : Nat → Prop) (P : Option Value → HS → Prop) : Array Value → State → Outcome → State → Prop := fun _ st oc t => (∃ (o : Option Value) (h' : HS), oc = .returned o ∧ P o h' ∧ va_P w.2.1.1 vwCl (aw_w w h') t.heap) ∧ va_F A st t
def aw_B (w : WT) (h : HS) (sz : Nat) : State → Prop := fun U => U.heap.size = sz ∧ va_P w.2.1.1 vwCl (aw_w w h) U.heap ∧ va_K w.2.1.1 vwCl (aw_tys w.2.1) U ∧ va_D (fun _ => True) (aw_w w h) ∧ aw_N U ∧ aw_Z w.2.2.2 (va_A (aw_w w h) sz) U U.heap
/-- the contract of a method: called with these values over h it returns, with P -/
def CT (w : WT) (d : Nat) (mi : MI) (av : List Value) (h : HS) (P : Option Value → HS → Prop) : Prop :=
  ∀ sz : Nat, Met w.1 mi.1 (aw_ws mi) (aw_rm d) (va_Pc av (aw_B w h sz)) (aw_Q w (va_A (aw_w w h) sz) P) 0 0 (va_A (aw_w w h) sz)
def AW (w : WT) (P : Option Value → HS → Prop) (d : Nat) (mi : MI) (k : KT) (pc : Nat) (L : List (Option Value)) (st : List Value) (h : HS) : Prop := match k with
  | (p, e, s, m, args, below, meth, c, A) => ∀ (H : Heap) (locs : List Loc) (la : Array Slot), aw_lh la mi.2.2.1 L → va_P w.2.1.1 vwCl (aw_w w h) H → va_D A (aw_w w h) → va_S A s.heap H locs →
    W p w.1 e (aw_rm d) s m args below meth c H locs 0 0 (MQ below (aw_Q w A P) args s 0 0 A) (F0 m pc la st)
def AOK (w : WT) (mi : MI) (k : KT) : Prop := match k with
  | (p, e, s, m, args, below, meth, c, A) => p.tables.exec = Jvm.exec ∧ c.code = mi.2.1 ∧ c.maxLocals = mi.2.2.1 ∧ s.vm.findClass mi.1.cls = some m.cls ∧ (∀ w ∈ aw_ws mi, w.before args s = true) ∧ meth.sig.returnType = mi.2.2.2 ∧ meth.locks = false ∧ va_K w.2.1.1 vwCl (aw_tys w.2.1) s ∧ (∀ q, s.heap.size ≤ q → A q) ∧ aw_N s ∧ aw_Z w.2.2.2 A s s.heap
theorem aw_A_eq {g : Geo} {h h' : HS} {lay : List SP} {sz : Nat} {q : Nat} (hq : va_A (aw_cz g h 0 lay) sz q) : va_A (aw_cz g h' 0 lay) sz q := by
  rcases hq with ⟨k, e, hk⟩ | hq
  · left
    rw [aw_cz_get] at hk
    cases hl : lay[k]? with
    | none => rw [hl] at hk; cases hk
    | some sp =>
      rw [hl] at hk
      have h2 := Option.some.inj hk
      refine ⟨k, aw_ce g h' k sp, ?_⟩
      rw [aw_cz_at hl]
      have : g.2.1 (0 + k) = q := congrArg Prod.fst h2
      rw [Nat.zero_add] at this
      rw [this]
  · exact Or.inr hq
theorem aw_D_eq {g : Geo} {h h' : HS} {lay : List SP} {A : Nat → Prop} (hD : va_D A (aw_cz g h 0 lay)) : va_D A (aw_cz g h' 0 lay) := by
  have key : ∀ (k : Nat) (q : Nat × va_E), (aw_cz g h' 0 lay)[k]? = some q → ∃ e, (aw_cz g h 0 lay)[k]? = some (q.1, e) := by
    intro k q hk
    rw [aw_cz_get] at hk
    cases hl : lay[k]? with
    | none => rw [hl] at hk; cases hk
    | some sp =>
      rw [hl] at hk
      have h2 := Option.some.inj hk
      refine ⟨aw_ce g h k sp, ?_⟩
      rw [aw_cz_at hl, ← h2, Nat.zero_add]
  refine ⟨fun i j p q hi hj hpq => ?_, fun k q hk => ?_⟩
  · obtain ⟨e1, h1⟩ := key i p hi
    obtain ⟨e2, h2⟩ := key j q hj
    exact hD.1 i j _ _ h1 h2 hpq
  · obtain ⟨e1, h1⟩ := key k q hk
    exact hD.2 k (q.1, e1) h1
/-- a contract out of a walk -/
theorem CT.of {w : WT} {d : Nat} {mi : MI} {av : List Value} {h : HS} {P : Option Value → HS → Prop} (hy : plainName mi.1.cls = true) (hn : (lg_sl av).length ≤ mi.2.2.1)
    (body : ∀ k : KT, AOK w mi k → AW w P d mi k 0 (aw_en av) [] h) : CT w d mi av h P := by
  intro sz
  refine Met.ofW (cc := mi.2.1) (maxL := mi.2.2.1) (ret := mi.2.2.2) hy rfl ?_
  intro p e s m args below meth c s₁ B hml hv
  obtain ⟨rfl, hsz, hP, hK, hD0, hN, hZ⟩ := hv
  have hts := atoms_spec (ws := aw_ws mi) B.pre
  have hown : s.vm.findClass mi.1.cls = some m.cls := findClass_of_methodNamed B.named
  subst hsz
  have hD := hD0.self (sz := s.heap.size)
  have hb := body (p, e, s, m, av.toArray, below, meth, c, va_A (aw_w w h) s.heap.size) ⟨B.exec, B.bytes, hml, hown, hts, B.returns, B.notSynchronized, hK, fun q hq => Or.inr hq, hN, hZ⟩
  have hl := lv_entry av (n := mi.2.2.1) hn
  rw [lg_entry_eq]
  refine hb _ _ _ ⟨hl.1, hl.2.1, fun i v hi => ?_⟩ hP hD va_S.rf
  have := aw_en_mem av 0 i v hi
  rw [Nat.zero_add] at this
  exact hl.2.2 (i, v) this
theorem CT.imp {w : WT} {d : Nat} {mi : MI} {av : List Value} {h : HS} {P P' : Option Value → HS → Prop} (hc : CT w d mi av h P) (hp : ∀ o h', P o h' → P' o h') : CT w d mi av h P' := by
  intro sz p e ha hcc hk s m args below hf happ hpre ht
  obtain ⟨t, o, h1, h2, h3, ⟨⟨o2, h', e1, e2, e3⟩, h5⟩, h6⟩ := hc sz p e ha hcc hk s m args below hf happ hpre ht
  exact ⟨t, o, h1, h2, h3, ⟨⟨o2, h', e1, hp _ _ e2, e3⟩, h5⟩, h6⟩

section AWR
variable {w : WT} {P : Option Value → HS → Prop} {d : Nat} {mi : MI} {k : KT} {pc : Nat} {L : List (Option Value)} {st : List Value} {h : HS}
theorem aw_iconst (K : AOK w mi k) {n0 : Int} {v : Int32} (hd : decode mi.2.1 pc = .ok (.iconst n0, 1)) (hv : Int32.ofInt n0 = v) (n : AW w P d mi k (pc + 1) L (.int v :: st) h) : AW w P d mi k pc L (st) h := by
  obtain ⟨p, e, s, m, args, below, meth, c, A⟩ := k
  exact fun H lo la a1 a2 a3 a4 => lv_iconst K.1 K.2.1 hd hv (n H lo la a1 a2 a3 a4)
theorem aw_bipush (K : AOK w mi k) {n0 : Int} {v : Int32} (hd : decode mi.2.1 pc = .ok (.bipush n0, 2)) (hv : (Int8.ofInt n0).toInt32 = v) (n : AW w P d mi k (pc + 2) L (.int v :: st) h) : AW w P d mi k pc L (st) h := by
  obtain ⟨p, e, s, m, args, below, meth, c, A⟩ := k
  exact fun H lo la a1 a2 a3 a4 => lv_bipush K.1 K.2.1 hd hv (n H lo la a1 a2 a3 a4)
theorem aw_sipush (K : AOK w mi k) {n0 : Int} {v : Int32} (hd : decode mi.2.1 pc = .ok (.sipush n0, 3)) (hv : (Int16.ofInt n0).toInt32 = v) (n : AW w P d mi k (pc + 3) L (.int v :: st) h) : AW w P d mi k pc L (st) h := by
  obtain ⟨p, e, s, m, args, below, meth, c, A⟩ := k
  exact fun H lo la a1 a2 a3 a4 => lv_sipush K.1 K.2.1 hd hv (n H lo la a1 a2 a3 a4)
theorem aw_lconst (K : AOK w mi k) {n0 : Fin 2} {v : Int64} (hd : decode mi.2.1 pc = .ok (.lconst n0, 1)) (hv : Int64.ofNat (n0 : Nat) = v) (n : AW w P d mi k (pc + 1) L (.long v :: st) h) : AW w P d mi k pc L (st) h := by
  obtain ⟨p, e, s, m, args, below, meth, c, A⟩ := k
  exact fun H lo la a1 a2 a3 a4 => lv_lconst K.1 K.2.1 hd hv (n H lo la a1 a2 a3 a4)
theorem aw_iadd (K : AOK w mi k) {x y : Int32} (hd : decode mi.2.1 pc = .ok (.iadd, 1)) (n : AW w P d mi k (pc + 1) L (.int (x + y) :: st) h) : AW w P d mi k pc L (.int y :: .int x :: st) h := by
  obtain ⟨p, e, s, m, args, below, meth, c, A⟩ := k
  exact fun H lo la a1 a2 a3 a4 => lv_iadd K.1 K.2.1 hd (n H lo la a1 a2 a3 a4)
theorem aw_isub (K : AOK w mi k) {x y : Int32} (hd : decode mi.2.1 pc = .ok (.isub, 1)) (n : AW w P d mi k (pc + 1) L (.int (x - y) :: st) h) : AW w P d mi k pc L (.int y :: .int x :: st) h := by
  obtain ⟨p, e, s, m, args, below, meth, c, A⟩ := k
  exact fun H lo la a1 a2 a3 a4 => lv_isub K.1 K.2.1 hd (n H lo la a1 a2 a3 a4)
theorem aw_imul (K : AOK w mi k) {x y : Int32} (hd : decode mi.2.1 pc = .ok (.imul, 1)) (n : AW w P d mi k (pc + 1) L (.int (x * y) :: st) h) : AW w P d mi k pc L (.int y :: .int x :: st) h := by
  obtain ⟨p, e, s, m, args, below, meth, c, A⟩ := k
  exact fun H lo la a1 a2 a3 a4 => lv_imul K.1 K.2.1 hd (n H lo la a1 a2 a3 a4)
theorem aw_iand (K : AOK w mi k) {x y : Int32} (hd : decode mi.2.1 pc = .ok (.iand, 1)) (n : AW w P d mi k (pc + 1) L (.int (x &&& y) :: st) h) : AW w P d mi k pc L (.int y :: .int x :: st) h := by
  obtain ⟨p, e, s, m, args, below, meth, c, A⟩ := k
  exact fun H lo la a1 a2 a3 a4 => lv_iand K.1 K.2.1 hd (n H lo la a1 a2 a3 a4)
theorem aw_ior (K : AOK w mi k) {x y : Int32} (hd : decode mi.2.1 pc = .ok (.ior, 1)) (n : AW w P d mi k (pc + 1) L (.int (x ||| y) :: st) h) : AW w P d mi k pc L (.int y :: .int x :: st) h := by
  obtain ⟨p, e, s, m, args, below, meth, c, A⟩ := k
  exact fun H lo la a1 a2 a3 a4 => lv_ior K.1 K.2.1 hd (n H lo la a1 a2 a3 a4)
theorem aw_ixor (K : AOK w mi k) {x y : Int32} (hd : decode mi.2.1 pc = .ok (.ixor, 1)) (n : AW w P d mi k (pc + 1) L (.int (x ^^^ y) :: st) h) : AW w P d mi k pc L (.int y :: .int x :: st) h := by
  obtain ⟨p, e, s, m, args, below, meth, c, A⟩ := k
  exact fun H lo la a1 a2 a3 a4 => lv_ixor K.1 K.2.1 hd (n H lo la a1 a2 a3 a4)
theorem aw_ishl (K : AOK w mi k) {x y : Int32} (hd : decode mi.2.1 pc = .ok (.ishl, 1)) (n : AW w P d mi k (pc + 1) L (.int (x <<< (y &&& 31)) :: st) h) : AW w P d mi k pc L (.int y :: .int x :: st) h := by
  obtain ⟨p, e, s, m, args, below, meth, c, A⟩ := k
  exact fun H lo la a1 a2 a3 a4 => lv_ishl K.1 K.2.1 hd (n H lo la a1 a2 a3 a4)
theorem aw_ishr (K : AOK w mi k) {x y : Int32} (hd : decode mi.2.1 pc = .ok (.ishr, 1)) (n : AW w P d mi k (pc + 1) L (.int (x >>> (y &&& 31)) :: st) h) : AW w P d mi k pc L (.int y :: .int x :: st) h := by
  obtain ⟨p, e, s, m, args, below, meth, c, A⟩ := k
  exact fun H lo la a1 a2 a3 a4 => lv_ishr K.1 K.2.1 hd (n H lo la a1 a2 a3 a4)
theorem aw_iushr (K : AOK w mi k) {x y : Int32} (hd : decode mi.2.1 pc = .ok (.iushr, 1)) (n : AW w P d mi k (pc + 1) L (.int ((x.toUInt32 >>> (y.toUInt32 &&& Int32.toUInt32 31)).toInt32) :: st) h) : AW w P d mi k pc L (.int y :: .int x :: st) h := by
  obtain ⟨p, e, s, m, args, below, meth, c, A⟩ := k
  exact fun H lo la a1 a2 a3 a4 => lv_iushr K.1 K.2.1 hd rfl (n H lo la a1 a2 a3 a4)
theorem aw_idiv (K : AOK w mi k) {x y : Int32} (hd : decode mi.2.1 pc = .ok (.idiv, 1)) (hne : ¬ y = 0) (n : AW w P d mi k (pc + 1) L (.int (x / y) :: st) h) : AW w P d mi k pc L (.int y :: .int x :: st) h := by
  obtain ⟨p, e, s, m, args, below, meth, c, A⟩ := k
  exact fun H lo la a1 a2 a3 a4 => lv_idiv K.1 K.2.1 hd hne (n H lo la a1 a2 a3 a4)
theorem aw_irem (K : AOK w mi k) {x y : Int32} (hd : decode mi.2.1 pc = .ok (.irem, 1)) (hne : ¬ y = 0) (n : AW w P d mi k (pc + 1) L (.int (x - x / y * y) :: st) h) : AW w P d mi k pc L (.int y :: .int x :: st) h := by
  obtain ⟨p, e, s, m, args, below, meth, c, A⟩ := k
  exact fun H lo la a1 a2 a3 a4 => lv_irem K.1 K.2.1 hd hne (n H lo la a1 a2 a3 a4)
theorem aw_ineg (K : AOK w mi k) {x : Int32} (hd : decode mi.2.1 pc = .ok (.ineg, 1)) (n : AW w P d mi k (pc + 1) L (.int (-x) :: st) h) : AW w P d mi k pc L (.int x :: st) h := by
  obtain ⟨p, e, s, m, args, below, meth, c, A⟩ := k
  exact fun H lo la a1 a2 a3 a4 => lv_ineg K.1 K.2.1 hd (n H lo la a1 a2 a3 a4)
theorem aw_ladd (K : AOK w mi k) {x y : Int64} (hd : decode mi.2.1 pc = .ok (.ladd, 1)) (n : AW w P d mi k (pc + 1) L (.long (x + y) :: st) h) : AW w P d mi k pc L (.long y :: .long x :: st) h := by
  obtain ⟨p, e, s, m, args, below, meth, c, A⟩ := k
  exact fun H lo la a1 a2 a3 a4 => lv_ladd K.1 K.2.1 hd (n H lo la a1 a2 a3 a4)
theorem aw_lsub (K : AOK w mi k) {x y : Int64} (hd : decode mi.2.1 pc = .ok (.lsub, 1)) (n : AW w P d mi k (pc + 1) L (.long (x - y) :: st) h) : AW w P d mi k pc L (.long y :: .long x :: st) h := by
  obtain ⟨p, e, s, m, args, below, meth, c, A⟩ := k
  exact fun H lo la a1 a2 a3 a4 => lv_lsub K.1 K.2.1 hd (n H lo la a1 a2 a3 a4)
theorem aw_lmul (K : AOK w mi k) {x y : Int64} (hd : decode mi.2.1 pc = .ok (.lmul, 1)) (n : AW w P d mi k (pc + 1) L (.long (x * y) :: st) h) : AW w P d mi k pc L (.long y :: .long x :: st) h := by
  obtain ⟨p, e, s, m, args, below, meth, c, A⟩ := k
  exact fun H lo la a1 a2 a3 a4 => lv_lmul K.1 K.2.1 hd (n H lo la a1 a2 a3 a4)
theorem aw_land (K : AOK w mi k) {x y : Int64} (hd : decode mi.2.1 pc = .ok (.land, 1)) (n : AW w P d mi k (pc + 1) L (.long (x &&& y) :: st) h) : AW w P d mi k pc L (.long y :: .long x :: st) h := by
  obtain ⟨p, e, s, m, args, below, meth, c, A⟩ := k
  exact fun H lo la a1 a2 a3 a4 => lv_land K.1 K.2.1 hd (n H lo la a1 a2 a3 a4)
theorem aw_lor (K : AOK w mi k) {x y : Int64} (hd : decode mi.2.1 pc = .ok (.lor, 1)) (n : AW w P d mi k (pc + 1) L (.long (x ||| y) :: st) h) : AW w P d mi k pc L (.long y :: .long x :: st) h := by
  obtain ⟨p, e, s, m, args, below, meth, c, A⟩ := k
  exact fun H lo la a1 a2 a3 a4 => lv_lor K.1 K.2.1 hd (n H lo la a1 a2 a3 a4)
theorem aw_ldiv (K : AOK w mi k) {x y : Int64} (hd : decode mi.2.1 pc = .ok (.ldiv, 1)) (hne : ¬ y = 0) (n : AW w P d mi k (pc + 1) L (.long (x / y) :: st) h) : AW w P d mi k pc L (.long y :: .long x :: st) h := by
  obtain ⟨p, e, s, m, args, below, meth, c, A⟩ := k
  exact fun H lo la a1 a2 a3 a4 => lv_ldiv K.1 K.2.1 hd hne (n H lo la a1 a2 a3 a4)
theorem aw_lrem (K : AOK w mi k) {x y : Int64} (hd : decode mi.2.1 pc = .ok (.lrem, 1)) (hne : ¬ y = 0) (n : AW w P d mi k (pc + 1) L (.long (x - x / y * y) :: st) h) : AW w P d mi k pc L (.long y :: .long x :: st) h := by
  obtain ⟨p, e, s, m, args, below, meth, c, A⟩ := k
  exact fun H lo la a1 a2 a3 a4 => lv_lrem K.1 K.2.1 hd hne (n H lo la a1 a2 a3 a4)
theorem aw_lcmp (K : AOK w mi k) {x y : Int64} (hd : decode mi.2.1 pc = .ok (.lcmp, 1)) (n : AW w P d mi k (pc + 1) L (.int (lg_cmp x y) :: st) h) : AW w P d mi k pc L (.long y :: .long x :: st) h := by
  obtain ⟨p, e, s, m, args, below, meth, c, A⟩ := k
  exact fun H lo la a1 a2 a3 a4 => W.lcmp K.1 K.2.1 hd (n H lo la a1 a2 a3 a4)
theorem aw_lshl (K : AOK w mi k) {x : Int64} {y : Int32} (hd : decode mi.2.1 pc = .ok (.lshl, 1)) (n : AW w P d mi k (pc + 1) L (.long (x <<< (y.toInt64 &&& 63)) :: st) h) : AW w P d mi k pc L (.int y :: .long x :: st) h := by
  obtain ⟨p, e, s, m, args, below, meth, c, A⟩ := k
  exact fun H lo la a1 a2 a3 a4 => lv_lshl K.1 K.2.1 hd rfl (n H lo la a1 a2 a3 a4)
theorem aw_lshr (K : AOK w mi k) {x : Int64} {y : Int32} (hd : decode mi.2.1 pc = .ok (.lshr, 1)) (n : AW w P d mi k (pc + 1) L (.long (x >>> (y.toInt64 &&& 63)) :: st) h) : AW w P d mi k pc L (.int y :: .long x :: st) h := by
  obtain ⟨p, e, s, m, args, below, meth, c, A⟩ := k
  exact fun H lo la a1 a2 a3 a4 => lv_lshr K.1 K.2.1 hd rfl (n H lo la a1 a2 a3 a4)
theorem aw_lushr (K : AOK w mi k) {x : Int64} {y : Int32} (hd : decode mi.2.1 pc = .ok (.lushr, 1)) (n : AW w P d mi k (pc + 1) L (.long ((x.toUInt64 >>> (y.toInt64.toUInt64 &&& Int64.toUInt64 63)).toInt64) :: st) h) : AW w P d mi k pc L (.int y :: .long x :: st) h := by
  obtain ⟨p, e, s, m, args, below, meth, c, A⟩ := k
  exact fun H lo la a1 a2 a3 a4 => lv_lushr K.1 K.2.1 hd rfl (n H lo la a1 a2 a3 a4)
theorem aw_i2l (K : AOK w mi k) {x : Int32} (hd : decode mi.2.1 pc = .ok (.i2l, 1)) (n : AW w P d mi k (pc + 1) L (.long x.toInt64 :: st) h) : AW w P d mi k pc L (.int x :: st) h := by
  obtain ⟨p, e, s, m, args, below, meth, c, A⟩ := k
  exact fun H lo la a1 a2 a3 a4 => lv_i2l K.1 K.2.1 hd rfl (n H lo la a1 a2 a3 a4)
theorem aw_l2i (K : AOK w mi k) {x : Int64} (hd : decode mi.2.1 pc = .ok (.l2i, 1)) (n : AW w P d mi k (pc + 1) L (.int x.toInt32 :: st) h) : AW w P d mi k pc L (.long x :: st) h := by
  obtain ⟨p, e, s, m, args, below, meth, c, A⟩ := k
  exact fun H lo la a1 a2 a3 a4 => lv_l2i K.1 K.2.1 hd rfl (n H lo la a1 a2 a3 a4)
theorem aw_i2b (K : AOK w mi k) {x : Int32} (hd : decode mi.2.1 pc = .ok (.i2b, 1)) (n : AW w P d mi k (pc + 1) L (.int x.toInt8.toInt32 :: st) h) : AW w P d mi k pc L (.int x :: st) h := by
  obtain ⟨p, e, s, m, args, below, meth, c, A⟩ := k
  exact fun H lo la a1 a2 a3 a4 => lv_i2b K.1 K.2.1 hd rfl (n H lo la a1 a2 a3 a4)
theorem aw_i2s (K : AOK w mi k) {x : Int32} (hd : decode mi.2.1 pc = .ok (.i2s, 1)) (n : AW w P d mi k (pc + 1) L (.int x.toInt16.toInt32 :: st) h) : AW w P d mi k pc L (.int x :: st) h := by
  obtain ⟨p, e, s, m, args, below, meth, c, A⟩ := k
  exact fun H lo la a1 a2 a3 a4 => lv_i2s K.1 K.2.1 hd rfl (n H lo la a1 a2 a3 a4)
theorem aw_dup (K : AOK w mi k) {va : Value} (hd : decode mi.2.1 pc = .ok (.dup, 1)) (hva : va.category = 1) (n : AW w P d mi k (pc + 1) L (va :: va :: st) h) : AW w P d mi k pc L (va :: st) h := by
  obtain ⟨p, e, s, m, args, below, meth, c, A⟩ := k
  exact fun H lo la a1 a2 a3 a4 => lv_dup K.1 K.2.1 hd hva (n H lo la a1 a2 a3 a4)
theorem aw_pop (K : AOK w mi k) {va : Value} (hd : decode mi.2.1 pc = .ok (.pop, 1)) (hva : va.category = 1) (n : AW w P d mi k (pc + 1) L (st) h) : AW w P d mi k pc L (va :: st) h := by
  obtain ⟨p, e, s, m, args, below, meth, c, A⟩ := k
  exact fun H lo la a1 a2 a3 a4 => lv_pop K.1 K.2.1 hd hva (n H lo la a1 a2 a3 a4)
theorem aw_pop2 (K : AOK w mi k) {va : Value} (hd : decode mi.2.1 pc = .ok (.pop2, 1)) (hva : va.category = 2) (n : AW w P d mi k (pc + 1) L (st) h) : AW w P d mi k pc L (va :: st) h := by
  obtain ⟨p, e, s, m, args, below, meth, c, A⟩ := k
  exact fun H lo la a1 a2 a3 a4 => lv_pop2_2 K.1 K.2.1 hd hva (n H lo la a1 a2 a3 a4)
theorem aw_dup_x1 (K : AOK w mi k) {va vb : Value} (hd : decode mi.2.1 pc = .ok (.dup_x1, 1)) (hva : va.category = 1) (hvb : vb.category = 1) (n : AW w P d mi k (pc + 1) L (va :: vb :: va :: st) h) : AW w P d mi k pc L (va :: vb :: st) h := by
  obtain ⟨p, e, s, m, args, below, meth, c, A⟩ := k
  exact fun H lo la a1 a2 a3 a4 => lv_dup_x1 K.1 K.2.1 hd hva hvb (n H lo la a1 a2 a3 a4)
theorem aw_dup_x2 (K : AOK w mi k) {va vb vd : Value} (hd : decode mi.2.1 pc = .ok (.dup_x2, 1)) (hva : va.category = 1) (hvb : vb.category = 1) (hvd : vd.category = 1) (n : AW w P d mi k (pc + 1) L (va :: vb :: vd :: va :: st) h) : AW w P d mi k pc L (va :: vb :: vd :: st) h := by
  obtain ⟨p, e, s, m, args, below, meth, c, A⟩ := k
  exact fun H lo la a1 a2 a3 a4 => lv_dup_x2 K.1 K.2.1 hd hva hvb hvd (n H lo la a1 a2 a3 a4)
theorem aw_dup2_11 (K : AOK w mi k) {va vb : Value} (hd : decode mi.2.1 pc = .ok (.dup2, 1)) (hva : va.category = 1) (hvb : vb.category = 1) (n : AW w P d mi k (pc + 1) L (va :: vb :: va :: vb :: st) h) : AW w P d mi k pc L (va :: vb :: st) h := by
  obtain ⟨p, e, s, m, args, below, meth, c, A⟩ := k
  exact fun H lo la a1 a2 a3 a4 => lv_dup2_11 K.1 K.2.1 hd hva hvb (n H lo la a1 a2 a3 a4)
theorem aw_dup2_2 (K : AOK w mi k) {va : Value} (hd : decode mi.2.1 pc = .ok (.dup2, 1)) (hva : va.category = 2) (n : AW w P d mi k (pc + 1) L (va :: va :: st) h) : AW w P d mi k pc L (va :: st) h := by
  obtain ⟨p, e, s, m, args, below, meth, c, A⟩ := k
  exact fun H lo la a1 a2 a3 a4 => lv_dup2_2 K.1 K.2.1 hd hva (n H lo la a1 a2 a3 a4)
-- branches
theorem aw_if_eq (K : AOK w mi k) {x : Int32} {off : Int} {tgt : Nat} (hd : decode mi.2.1 pc = .ok (.ifCond .eq off, 3)) (ht : (pc : Int) + off = (tgt : Int)) (kt : x = 0 → AW w P d mi k tgt L st h) (kf : ¬ x = 0 → AW w P d mi k (pc + 3) L st h) : AW w P d mi k pc L (.int x :: st) h := by
  obtain ⟨p, e, s, m, args, below, meth, c, A⟩ := k
  exact fun H lo la a1 a2 a3 a4 => lv_if_eq K.1 K.2.1 hd ht (fun q => kt q H lo la a1 a2 a3 a4) (fun q => kf q H lo la a1 a2 a3 a4)
theorem aw_icmp_eq (K : AOK w mi k) {x y : Int32} {off : Int} {tgt : Nat} (hd : decode mi.2.1 pc = .ok (.if_icmp .eq off, 3)) (ht : (pc : Int) + off = (tgt : Int)) (kt : x = y → AW w P d mi k tgt L st h) (kf : ¬ x = y → AW w P d mi k (pc + 3) L st h) : AW w P d mi k pc L (.int y :: .int x :: st) h := by
  obtain ⟨p, e, s, m, args, below, meth, c, A⟩ := k
  exact fun H lo la a1 a2 a3 a4 => lv_icmp_eq K.1 K.2.1 hd ht (fun q => kt q H lo la a1 a2 a3 a4) (fun q => kf q H lo la a1 a2 a3 a4)
theorem aw_if_ne (K : AOK w mi k) {x : Int32} {off : Int} {tgt : Nat} (hd : decode mi.2.1 pc = .ok (.ifCond .ne off, 3)) (ht : (pc : Int) + off = (tgt : Int)) (kt : ¬ x = 0 → AW w P d mi k tgt L st h) (kf : x = 0 → AW w P d mi k (pc + 3) L st h) : AW w P d mi k pc L (.int x :: st) h := by
  obtain ⟨p, e, s, m, args, below, meth, c, A⟩ := k
  exact fun H lo la a1 a2 a3 a4 => lv_if_ne K.1 K.2.1 hd ht (fun q => kt q H lo la a1 a2 a3 a4) (fun q => kf q H lo la a1 a2 a3 a4)
theorem aw_icmp_ne (K : AOK w mi k) {x y : Int32} {off : Int} {tgt : Nat} (hd : decode mi.2.1 pc = .ok (.if_icmp .ne off, 3)) (ht : (pc : Int) + off = (tgt : Int)) (kt : ¬ x = y → AW w P d mi k tgt L st h) (kf : x = y → AW w P d mi k (pc + 3) L st h) : AW w P d mi k pc L (.int y :: .int x :: st) h := by
  obtain ⟨p, e, s, m, args, below, meth, c, A⟩ := k
  exact fun H lo la a1 a2 a3 a4 => lv_icmp_ne K.1 K.2.1 hd ht (fun q => kt q H lo la a1 a2 a3 a4) (fun q => kf q H lo la a1 a2 a3 a4)
theorem aw_if_lt (K : AOK w mi k) {x : Int32} {off : Int} {tgt : Nat} (hd : decode mi.2.1 pc = .ok (.ifCond .lt off, 3)) (ht : (pc : Int) + off = (tgt : Int)) (kt : x < 0 → AW w P d mi k tgt L st h) (kf : ¬ x < 0 → AW w P d mi k (pc + 3) L st h) : AW w P d mi k pc L (.int x :: st) h := by
  obtain ⟨p, e, s, m, args, below, meth, c, A⟩ := k
  exact fun H lo la a1 a2 a3 a4 => lv_if_lt K.1 K.2.1 hd ht (fun q => kt q H lo la a1 a2 a3 a4) (fun q => kf q H lo la a1 a2 a3 a4)
theorem aw_icmp_lt (K : AOK w mi k) {x y : Int32} {off : Int} {tgt : Nat} (hd : decode mi.2.1 pc = .ok (.if_icmp .lt off, 3)) (ht : (pc : Int) + off = (tgt : Int)) (kt : x < y → AW w P d mi k tgt L st h) (kf : ¬ x < y → AW w P d mi k (pc + 3) L st h) : AW w P d mi k pc L (.int y :: .int x :: st) h := by
  obtain ⟨p, e, s, m, args, below, meth, c, A⟩ := k
  exact fun H lo la a1 a2 a3 a4 => lv_icmp_lt K.1 K.2.1 hd ht (fun q => kt q H lo la a1 a2 a3 a4) (fun q => kf q H lo la a1 a2 a3 a4)
theorem aw_if_ge (K : AOK w mi k) {x : Int32} {off : Int} {tgt : Nat} (hd : decode mi.2.1 pc = .ok (.ifCond .ge off, 3)) (ht : (pc : Int) + off = (tgt : Int)) (kt : 0 ≤ x → AW w P d mi k tgt L st h) (kf : ¬ 0 ≤ x → AW w P d mi k (pc + 3) L st h) : AW w P d mi k pc L (.int x :: st) h := by
  obtain ⟨p, e, s, m, args, below, meth, c, A⟩ := k
  exact fun H lo la a1 a2 a3 a4 => lv_if_ge K.1 K.2.1 hd ht (fun q => kt q H lo la a1 a2 a3 a4) (fun q => kf q H lo la a1 a2 a3 a4)
theorem aw_icmp_ge (K : AOK w mi k) {x y : Int32} {off : Int} {tgt : Nat} (hd : decode mi.2.1 pc = .ok (.if_icmp .ge off, 3)) (ht : (pc : Int) + off = (tgt : Int)) (kt : y ≤ x → AW w P d mi k tgt L st h) (kf : ¬ y ≤ x → AW w P d mi k (pc + 3) L st h) : AW w P d mi k pc L (.int y :: .int x :: st) h := by
  obtain ⟨p, e, s, m, args, below, meth, c, A⟩ := k
  exact fun H lo la a1 a2 a3 a4 => lv_icmp_ge K.1 K.2.1 hd ht (fun q => kt q H lo la a1 a2 a3 a4) (fun q => kf q H lo la a1 a2 a3 a4)
theorem aw_if_gt (K : AOK w mi k) {x : Int32} {off : Int} {tgt : Nat} (hd : decode mi.2.1 pc = .ok (.ifCond .gt off, 3)) (ht : (pc : Int) + off = (tgt : Int)) (kt : 0 < x → AW w P d mi k tgt L st h) (kf : ¬ 0 < x → AW w P d mi k (pc + 3) L st h) : AW w P d mi k pc L (.int x :: st) h := by
  obtain ⟨p, e, s, m, args, below, meth, c, A⟩ := k
  exact fun H lo la a1 a2 a3 a4 => lv_if_gt K.1 K.2.1 hd ht (fun q => kt q H lo la a1 a2 a3 a4) (fun q => kf q H lo la a1 a2 a3 a4)
theorem aw_icmp_gt (K : AOK w mi k) {x y : Int32} {off : Int} {tgt : Nat} (hd : decode mi.2.1 pc = .ok (.if_icmp .gt off, 3)) (ht : (pc : Int) + off = (tgt : Int)) (kt : y < x → AW w P d mi k tgt L st h) (kf : ¬ y < x → AW w P d mi k (pc + 3) L st h) : AW w P d mi k pc L (.int y :: .int x :: st) h := by
  obtain ⟨p, e, s, m, args, below, meth, c, A⟩ := k
  exact fun H lo la a1 a2 a3 a4 => lv_icmp_gt K.1 K.2.1 hd ht (fun q => kt q H lo la a1 a2 a3 a4) (fun q => kf q H lo la a1 a2 a3 a4)
theorem aw_if_le (K : AOK w mi k) {x : Int32} {off : Int} {tgt : Nat} (hd : decode mi.2.1 pc = .ok (.ifCond .le off, 3)) (ht : (pc : Int) + off = (tgt : Int)) (kt : x ≤ 0 → AW w P d mi k tgt L st h) (kf : ¬ x ≤ 0 → AW w P d mi k (pc + 3) L st h) : AW w P d mi k pc L (.int x :: st) h := by
  obtain ⟨p, e, s, m, args, below, meth, c, A⟩ := k
  exact fun H lo la a1 a2 a3 a4 => lv_if_le K.1 K.2.1 hd ht (fun q => kt q H lo la a1 a2 a3 a4) (fun q => kf q H lo la a1 a2 a3 a4)
theorem aw_icmp_le (K : AOK w mi k) {x y : Int32} {off : Int} {tgt : Nat} (hd : decode mi.2.1 pc = .ok (.if_icmp .le off, 3)) (ht : (pc : Int) + off = (tgt : Int)) (kt : x ≤ y → AW w P d mi k tgt L st h) (kf : ¬ x ≤ y → AW w P d mi k (pc + 3) L st h) : AW w P d mi k pc L (.int y :: .int x :: st) h := by
  obtain ⟨p, e, s, m, args, below, meth, c, A⟩ := k
  exact fun H lo la a1 a2 a3 a4 => lv_icmp_le K.1 K.2.1 hd ht (fun q => kt q H lo la a1 a2 a3 a4) (fun q => kf q H lo la a1 a2 a3 a4)
theorem aw_goto (K : AOK w mi k) {off : Int} {tgt : Nat} (hd : decode mi.2.1 pc = .ok (.goto off, 3)) (ht : (pc : Int) + off = (tgt : Int)) (n : AW w P d mi k tgt L st h) : AW w P d mi k pc L st h := by
  obtain ⟨p, e, s, m, args, below, meth, c, A⟩ := k
  exact fun H lo la a1 a2 a3 a4 => lv_goto K.1 K.2.1 hd ht (n H lo la a1 a2 a3 a4)
theorem aw_iload_n (K : AOK w mi k) {q : Fin 4} {i : Nat} {x : Int32} (hd : decode mi.2.1 pc = .ok (.iload_n q, 1)) (hi : (q : Nat) = i) (hl : L[i]? = some (some (.int x))) (n : AW w P d mi k (pc + 1) L (.int x :: st) h) : AW w P d mi k pc L st h := by
  obtain ⟨p, e, s, m, args, below, meth, c, A⟩ := k
  exact fun H lo la a1 a2 a3 a4 => lv_iload_n K.1 K.2.1 hd hi (a1.2.2 i _ hl) (n H lo la a1 a2 a3 a4)
theorem aw_iload (K : AOK w mi k) {i : Nat} {x : Int32} (hd : decode mi.2.1 pc = .ok (.iload i, 2)) (hl : L[i]? = some (some (.int x))) (n : AW w P d mi k (pc + 2) L (.int x :: st) h) : AW w P d mi k pc L st h := by
  obtain ⟨p, e, s, m, args, below, meth, c, A⟩ := k
  exact fun H lo la a1 a2 a3 a4 => lv_iload K.1 K.2.1 hd (a1.2.2 i _ hl) (n H lo la a1 a2 a3 a4)
theorem aw_istore_n (K : AOK w mi k) {q : Fin 4} {i : Nat} {x : Int32} (hd : decode mi.2.1 pc = .ok (.istore_n q, 1)) (hi : (q : Nat) = i) (hb : i < mi.2.2.1) (hp : ∀ (j : Nat) (o : Option Value), j + 1 = i → L[j]? = some o → aw_c1 o = true) (n : AW w P d mi k (pc + 1) (L.set i (some (.int x))) st h) : AW w P d mi k pc L (.int x :: st) h := by
  obtain ⟨p, e, s, m, args, below, meth, c, A⟩ := k
  exact fun H lo la a1 a2 a3 a4 => lv_istore_n K.1 K.2.1 hd hi (aw_lh_has a1) hb rfl (fun la' hl => n H lo la' (aw_set1 hl (fun j w hj => aw_ac_of hj) hp) a2 a3 a4)
theorem aw_istore (K : AOK w mi k) {i : Nat} {x : Int32} (hd : decode mi.2.1 pc = .ok (.istore i, 2)) (hb : i < mi.2.2.1) (hp : ∀ (j : Nat) (o : Option Value), j + 1 = i → L[j]? = some o → aw_c1 o = true) (n : AW w P d mi k (pc + 2) (L.set i (some (.int x))) st h) : AW w P d mi k pc L (.int x :: st) h := by
  obtain ⟨p, e, s, m, args, below, meth, c, A⟩ := k
  exact fun H lo la a1 a2 a3 a4 => lv_istore K.1 K.2.1 hd (aw_lh_has a1) hb rfl (fun la' hl => n H lo la' (aw_set1 hl (fun j w hj => aw_ac_of hj) hp) a2 a3 a4)
theorem aw_lload_n (K : AOK w mi k) {q : Fin 4} {i : Nat} {x : Int64} (hd : decode mi.2.1 pc = .ok (.lload_n q, 1)) (hi : (q : Nat) = i) (hl : L[i]? = some (some (.long x))) (n : AW w P d mi k (pc + 1) L (.long x :: st) h) : AW w P d mi k pc L st h := by
  obtain ⟨p, e, s, m, args, below, meth, c, A⟩ := k
  exact fun H lo la a1 a2 a3 a4 => lv_lload_n K.1 K.2.1 hd hi (a1.2.2 i _ hl) (n H lo la a1 a2 a3 a4)
theorem aw_lload (K : AOK w mi k) {i : Nat} {x : Int64} (hd : decode mi.2.1 pc = .ok (.lload i, 2)) (hl : L[i]? = some (some (.long x))) (n : AW w P d mi k (pc + 2) L (.long x :: st) h) : AW w P d mi k pc L st h := by
  obtain ⟨p, e, s, m, args, below, meth, c, A⟩ := k
  exact fun H lo la a1 a2 a3 a4 => lv_lload K.1 K.2.1 hd (a1.2.2 i _ hl) (n H lo la a1 a2 a3 a4)
theorem aw_lstore_n (K : AOK w mi k) {q : Fin 4} {i : Nat} {x : Int64} (hd : decode mi.2.1 pc = .ok (.lstore_n q, 1)) (hi : (q : Nat) = i) (hb : i + 1 < mi.2.2.1) (hp : ∀ (j : Nat) (o : Option Value), j + 1 = i → L[j]? = some o → aw_c1 o = true) (n : AW w P d mi k (pc + 1) ((L.set i (some (.long x))).set (i + 1) none) st h) : AW w P d mi k pc L (.long x :: st) h := by
  obtain ⟨p, e, s, m, args, below, meth, c, A⟩ := k
  exact fun H lo la a1 a2 a3 a4 => lv_lstore_n K.1 K.2.1 hd hi (aw_lh_has a1) hb rfl (fun la' hl => n H lo la' (aw_set2 hl (fun j w hj => aw_ac_of hj) hp) a2 a3 a4)
theorem aw_lstore (K : AOK w mi k) {i : Nat} {x : Int64} (hd : decode mi.2.1 pc = .ok (.lstore i, 2)) (hb : i + 1 < mi.2.2.1) (hp : ∀ (j : Nat) (o : Option Value), j + 1 = i → L[j]? = some o → aw_c1 o = true) (n : AW w P d mi k (pc + 2) ((L.set i (some (.long x))).set (i + 1) none) st h) : AW w P d mi k pc L (.long x :: st) h := by
  obtain ⟨p, e, s, m, args, below, meth, c, A⟩ := k
  exact fun H lo la a1 a2 a3 a4 => lv_lstore K.1 K.2.1 hd (aw_lh_has a1) hb rfl (fun la' hl => n H lo la' (aw_set2 hl (fun j w hj => aw_ac_of hj) hp) a2 a3 a4)
theorem aw_aload_n (K : AOK w mi k) {q : Fin 4} {i : Nat} {x : Nat} (hd : decode mi.2.1 pc = .ok (.aload_n q, 1)) (hi : (q : Nat) = i) (hl : L[i]? = some (some (.ref x))) (n : AW w P d mi k (pc + 1) L (.ref x :: st) h) : AW w P d mi k pc L st h := by
  obtain ⟨p, e, s, m, args, below, meth, c, A⟩ := k
  exact fun H lo la a1 a2 a3 a4 => lv_aload_n K.1 K.2.1 hd hi (a1.2.2 i _ hl) (n H lo la a1 a2 a3 a4)
theorem aw_aload (K : AOK w mi k) {i : Nat} {x : Nat} (hd : decode mi.2.1 pc = .ok (.aload i, 2)) (hl : L[i]? = some (some (.ref x))) (n : AW w P d mi k (pc + 2) L (.ref x :: st) h) : AW w P d mi k pc L st h := by
  obtain ⟨p, e, s, m, args, below, meth, c, A⟩ := k
  exact fun H lo la a1 a2 a3 a4 => lv_aload K.1 K.2.1 hd (a1.2.2 i _ hl) (n H lo la a1 a2 a3 a4)
theorem aw_astore_n (K : AOK w mi k) {q : Fin 4} {i : Nat} {x : Nat} (hd : decode mi.2.1 pc = .ok (.astore_n q, 1)) (hi : (q : Nat) = i) (hb : i < mi.2.2.1) (hp : ∀ (j : Nat) (o : Option Value), j + 1 = i → L[j]? = some o → aw_c1 o = true) (n : AW w P d mi k (pc + 1) (L.set i (some (.ref x))) st h) : AW w P d mi k pc L (.ref x :: st) h := by
  obtain ⟨p, e, s, m, args, below, meth, c, A⟩ := k
  exact fun H lo la a1 a2 a3 a4 => lv_astore_n K.1 K.2.1 hd hi (aw_lh_has a1) hb rfl (fun la' hl => n H lo la' (aw_set1 hl (fun j w hj => aw_ac_of hj) hp) a2 a3 a4)
theorem aw_astore (K : AOK w mi k) {i : Nat} {x : Nat} (hd : decode mi.2.1 pc = .ok (.astore i, 2)) (hb : i < mi.2.2.1) (hp : ∀ (j : Nat) (o : Option Value), j + 1 = i → L[j]? = some o → aw_c1 o = true) (n : AW w P d mi k (pc + 2) (L.set i (some (.ref x))) st h) : AW w P d mi k pc L (.ref x :: st) h := by
  obtain ⟨p, e, s, m, args, below, meth, c, A⟩ := k
  exact fun H lo la a1 a2 a3 a4 => lv_astore K.1 K.2.1 hd (aw_lh_has a1) hb rfl (fun la' hl => n H lo la' (aw_set1 hl (fun j w hj => aw_ac_of hj) hp) a2 a3 a4)
theorem aw_iinc (K : AOK w mi k) {i : Nat} {n0 : Int} {x v : Int32} (hd : decode mi.2.1 pc = .ok (.iinc i n0, 3)) (hl : L[i]? = some (some (.int x))) (hv : x + Int32.ofInt n0 = v) (hb : i < mi.2.2.1) (hp : ∀ (j : Nat) (o : Option Value), j + 1 = i → L[j]? = some o → aw_c1 o = true) (n : AW w P d mi k (pc + 3) (L.set i (some (.int v))) st h) : AW w P d mi k pc L st h := by
  obtain ⟨p, e, s, m, args, below, meth, c, A⟩ := k
  intro H lo la a1 a2 a3 a4
  have hh : lv_has la mi.2.2.1 ((i, .int x) :: aw_ac 0 L) := by
    refine ⟨a1.1, a1.2.1, fun q hq => ?_⟩
    rcases List.mem_cons.mp hq with rfl | hq
    · exact a1.2.2 i _ hl
    · exact (aw_lh_has a1).2.2 q hq
  exact lv_iinc K.1 K.2.1 hd hh (k := 0) rfl hv hb rfl (fun la' hl => n H lo la' (aw_set1 hl (fun j w hj => List.mem_cons_of_mem _ (aw_ac_of hj)) hp) a2 a3 a4)
/-- of a local no more is said -/
theorem aw_forget (n : ∀ L', (∀ (i : Nat) (v : Value), L'[i]? = some (some v) → L[i]? = some (some v)) → AW w P d mi k pc L' st h) {L' : List (Option Value)} (hL : ∀ (i : Nat) (v : Value), L'[i]? = some (some v) → L[i]? = some (some v)) : AW w P d mi k pc L st h := by
  have n := n L' hL
  obtain ⟨p, e, s, m, args, below, meth, c, A⟩ := k
  exact fun H lo la a1 a2 a3 a4 => n H lo la ⟨a1.1, a1.2.1, fun i v hv => a1.2.2 i v (hL i v hv)⟩ a2 a3 a4
def aw_less : List (Option Value) → List (Option Value) → Prop
  | [], _ => True
  | none :: r, _ :: r2 => aw_less r r2
  | some v :: r, o :: r2 => o = some v ∧ aw_less r r2
  | none :: r, [] => aw_less r []
  | some _ :: _, [] => False
theorem aw_less_at : ∀ (L' L : List (Option Value)), aw_less L' L → ∀ (i : Nat) (v : Value), L'[i]? = some (some v) → L[i]? = some (some v)
  | [], _, _, i, v, h => by simp at h
  | none :: r, _ :: r2, hl, i, v, h => by
    cases i with
    | zero => simp at h
    | succ i => simpa using aw_less_at r r2 hl i v (by simpa using h)
  | some a :: r, o :: r2, hl, i, v, h => by
    cases i with
    | zero => simp at h; simp [hl.1, h]
    | succ i => simpa using aw_less_at r r2 hl.2 i v (by simpa using h)
  | none :: r, [], hl, i, v, h => by
    cases i with
    | zero => simp at h
    | succ i => have := aw_less_at r [] hl i v (by simpa using h); simp at this
theorem aw_sub (L' : List (Option Value)) (hl : aw_less L' L) (n : AW w P d mi k pc L' st h) : AW w P d mi k pc L st h := by
  obtain ⟨p, e, s, m, args, below, meth, c, A⟩ := k
  exact fun H lo la a1 a2 a3 a4 => n H lo la ⟨a1.1, a1.2.1, fun i v hv => a1.2.2 i v (aw_less_at _ _ hl i v hv)⟩ a2 a3 a4
/-! returns -/
theorem aw_iret (K : AOK w mi k) {x : Int32} (hr : mi.2.2.2 = some .int) (hd : decode mi.2.1 pc = .ok (.ireturn, 1)) (hp : P (some (.int x)) h) : AW w P d mi k pc L [.int x] h := by
  obtain ⟨p, e, s, m, args, below, meth, c, A⟩ := k
  exact fun H lo la a1 a2 a3 a4 => W.iret K.1 K.2.1 (K.2.2.2.2.2.1.trans hr) (fun t ht _ => ⟨⟨_, h, rfl, hp, by rw [ht]; exact a2⟩, a4.F ht⟩) a4.2.2 hd K.2.2.2.2.2.2.1
theorem aw_zret (K : AOK w mi k) {x : Int32} (hr : mi.2.2.2 = some .boolean) (hd : decode mi.2.1 pc = .ok (.ireturn, 1)) (hn : narrow .boolean (.int x) = .int x) (hp : P (some (.int x)) h) : AW w P d mi k pc L [.int x] h := by
  obtain ⟨p, e, s, m, args, below, meth, c, A⟩ := k
  exact fun H lo la a1 a2 a3 a4 => W.zret K.1 K.2.1 (K.2.2.2.2.2.1.trans hr) hn (fun t ht _ => ⟨⟨_, h, rfl, hp, by rw [ht]; exact a2⟩, a4.F ht⟩) a4.2.2 hd K.2.2.2.2.2.2.1
theorem aw_lret (K : AOK w mi k) {x : Int64} (hr : mi.2.2.2 = some .long) (hd : decode mi.2.1 pc = .ok (.lreturn, 1)) (hp : P (some (.long x)) h) : AW w P d mi k pc L [.long x] h := by
  obtain ⟨p, e, s, m, args, below, meth, c, A⟩ := k
  exact fun H lo la a1 a2 a3 a4 => W.lret K.1 K.2.1 (K.2.2.2.2.2.1.trans hr) (fun t ht _ => ⟨⟨_, h, rfl, hp, by rw [ht]; exact a2⟩, a4.F ht⟩) a4.2.2 hd K.2.2.2.2.2.2.1
theorem aw_vret (K : AOK w mi k) (hr : mi.2.2.2 = none) (hd : decode mi.2.1 pc = .ok (.return_, 1)) (hp : P none h) : AW w P d mi k pc L [] h := by
  obtain ⟨p, e, s, m, args, below, meth, c, A⟩ := k
  exact fun H lo la a1 a2 a3 a4 => W.vret K.1 K.2.1 (K.2.2.2.2.2.1.trans hr) (fun t ht _ => ⟨⟨_, h, rfl, hp, by rw [ht]; exact a2⟩, a4.F ht⟩) a4.2.2 hd K.2.2.2.2.2.2.1
/-! fields -/
def FL (own : String) (index ci j : Nat) : Prop := ∃ (C : String) (T : u_T) (N : Nat), vwCl[ci]? = some (C, T, N) ∧ j < N ∧ (Cond.fieldLink own index C (T j).2.1 (T j).2.2.1) ∈ aw_tb ∧ (∀ w ∈ u_ws C T N, w ∈ aw_tb) ∧ (T j).1 = C
def FP_ (ci j : Nat) (ty : FieldType) : Prop := ∃ (C : String) (T : u_T) (N : Nat) (tys : Nat → FieldType), vwCl[ci]? = some (C, T, N) ∧ (∀ k, k < N → parseFieldDescriptor (T k).2.2.1 = some (tys k)) ∧ (∀ a, a < N → ∀ b, b < N → a ≠ b → (T a).2.1 ≠ (T b).2.1) ∧ (T j).2.2.2 = false ∧ parseFieldDescriptor (T j).2.2.1 = some ty
theorem aw_get (K : AOK w mi k) {index ci j i f n0 : Nat} {fs : List Nat} (fl : FL mi.1.cls index ci j) (hd : decode mi.2.1 pc = .ok (.getfield index, 3)) (hi : w.2.2.1[i]? = some (ci + 3, n0, fs)) (hf : fs[j]? = some f) (n : AW w P d mi k (pc + 3) L (aw_fv w.2.1 h i j f :: st) h) : AW w P d mi k pc L (.ref (w.2.1.2.1 i) :: st) h := by
  obtain ⟨p, e, s, m, args, below, meth, c, A⟩ := k
  obtain ⟨C, T, N, h1, h2, h3, h4, h5⟩ := fl
  obtain ⟨k1, k2, k3, k4, k5, k6, k7, k8, k9, k10, k11⟩ := K
  intro H lo la a1 a2 a3 a4
  refine va_get k1 k2 (Ts := aw_ws mi) k5 (fun w hw => List.mem_cons_of_mem _ (h4 w hw)) k4 k8 a2 i (aw_cz_at hi) h1 j h2 (k5 _ (List.mem_cons_of_mem _ h3)) (fun x hx => by rw [h5] at hx; exact hx) (aw_fs_at hf) hd (n H lo la a1 a2 a3 a4)
theorem aw_getI (K : AOK w mi k) {index ci j i n0 : Nat} {fs : List Nat} (fl : FL mi.1.cls index ci j) (hd : decode mi.2.1 pc = .ok (.getfield index, 3)) (hi : w.2.2.1[i]? = some (ci + 3, n0, fs)) (hf : fs[j]? = some 0) (n : AW w P d mi k (pc + 3) L (.int (h.1 i j) :: st) h) : AW w P d mi k pc L (.ref (w.2.1.2.1 i) :: st) h := aw_get K fl hd hi hf n
theorem aw_getL (K : AOK w mi k) {index ci j i n0 : Nat} {fs : List Nat} (fl : FL mi.1.cls index ci j) (hd : decode mi.2.1 pc = .ok (.getfield index, 3)) (hi : w.2.2.1[i]? = some (ci + 3, n0, fs)) (hf : fs[j]? = some 1) (n : AW w P d mi k (pc + 3) L (.long (h.2 i j) :: st) h) : AW w P d mi k pc L (.ref (w.2.1.2.1 i) :: st) h := aw_get K fl hd hi hf n
theorem aw_getR (K : AOK w mi k) {index ci j i n0 r : Nat} {fs : List Nat} (fl : FL mi.1.cls index ci j) (hd : decode mi.2.1 pc = .ok (.getfield index, 3)) (hi : w.2.2.1[i]? = some (ci + 3, n0, fs)) (hf : fs[j]? = some (r + 2)) (n : AW w P d mi k (pc + 3) L (.ref (w.2.1.2.1 r) :: st) h) : AW w P d mi k pc L (.ref (w.2.1.2.1 i) :: st) h := aw_get K fl hd hi hf n
theorem aw_putI (K : AOK w mi k) {index ci j i n0 : Nat} {fs : List Nat} {v : Int32} (fl : FL mi.1.cls index ci j) (fp : FP_ ci j .int) (hd : decode mi.2.1 pc = .ok (.putfield index, 3)) (hi : w.2.2.1[i]? = some (ci + 3, n0, fs)) (hf : fs[j]? = some 0) (n : AW w P d mi k (pc + 3) L st (setI h i j v)) : AW w P d mi k pc L (.int v :: .ref (w.2.1.2.1 i) :: st) h := by
  obtain ⟨p, e, s, m, args, below, meth, c, A⟩ := k
  obtain ⟨C, T, N, h1, h2, h3, h4, h5⟩ := fl
  obtain ⟨C', T', N', tys, g1, g2, g3, g4, g5⟩ := fp
  cases h1.symm.trans g1
  obtain ⟨k1, k2, k3, k4, k5, k6, k7, k8, k9, k10, k11⟩ := K
  intro H lo la a1 a2 a3 a4
  refine va_put k1 k2 (Ts := aw_ws mi) k5 (fun w hw => List.mem_cons_of_mem _ (h4 w hw)) tys g2 g3 k4 k8 a2 a3 a4 i (aw_cz_at hi) h1 j h2 (k5 _ (List.mem_cons_of_mem _ h3)) (fun x hx => by rw [h5] at hx; exact hx) g4 (ty := .int) g5 rfl rfl (by have := aw_fs_at (g := w.2.1) (h := h) (i := i) hf; exact (List.getElem?_eq_some_iff.mp this).1) hd (fun H1 lo1 b2 b3 b4 => ?_)
  have e1 : (aw_w w h).set i (w.2.1.2.1 i, .inr (ci, (aw_fs w.2.1 h i 0 fs).set j (.int v))) = aw_w w (setI h i j v) := by
    show _ = aw_cz _ _ _ _
    rw [aw_cz_set hi (fun a ha => setI_o (h := h) (j := j) (v := v) a ha)]
    show _ = (aw_cz w.2.1 h 0 w.2.2.1).set i (w.2.1.2.1 i, .inr (ci, aw_fs w.2.1 (setI h i j v) i 0 fs))
    rw [aw_fs_setI hf]
  rw [e1] at b2 b3
  exact n H1 lo1 la a1 b2 b3 b4
theorem aw_putL (K : AOK w mi k) {index ci j i n0 : Nat} {fs : List Nat} {v : Int64} (fl : FL mi.1.cls index ci j) (fp : FP_ ci j .long) (hd : decode mi.2.1 pc = .ok (.putfield index, 3)) (hi : w.2.2.1[i]? = some (ci + 3, n0, fs)) (hf : fs[j]? = some 1) (n : AW w P d mi k (pc + 3) L st (setL h i j v)) : AW w P d mi k pc L (.long v :: .ref (w.2.1.2.1 i) :: st) h := by
  obtain ⟨p, e, s, m, args, below, meth, c, A⟩ := k
  obtain ⟨C, T, N, h1, h2, h3, h4, h5⟩ := fl
  obtain ⟨C', T', N', tys, g1, g2, g3, g4, g5⟩ := fp
  cases h1.symm.trans g1
  obtain ⟨k1, k2, k3, k4, k5, k6, k7, k8, k9, k10, k11⟩ := K
  intro H lo la a1 a2 a3 a4
  refine va_put k1 k2 (Ts := aw_ws mi) k5 (fun w hw => List.mem_cons_of_mem _ (h4 w hw)) tys g2 g3 k4 k8 a2 a3 a4 i (aw_cz_at hi) h1 j h2 (k5 _ (List.mem_cons_of_mem _ h3)) (fun x hx => by rw [h5] at hx; exact hx) g4 (ty := .long) g5 rfl rfl (by have := aw_fs_at (g := w.2.1) (h := h) (i := i) hf; exact (List.getElem?_eq_some_iff.mp this).1) hd (fun H1 lo1 b2 b3 b4 => ?_)
  have e1 : (aw_w w h).set i (w.2.1.2.1 i, .inr (ci, (aw_fs w.2.1 h i 0 fs).set j (.long v))) = aw_w w (setL h i j v) := by
    show _ = aw_cz _ _ _ _
    rw [aw_cz_set hi (fun a ha => setL_o (h := h) (j := j) (v := v) a ha)]
    show _ = (aw_cz w.2.1 h 0 w.2.2.1).set i (w.2.1.2.1 i, .inr (ci, aw_fs w.2.1 (setL h i j v) i 0 fs))
    rw [aw_fs_setL hf]
  rw [e1] at b2 b3
  exact n H1 lo1 la a1 b2 b3 b4
/-! rows -/
theorem aw_iald (K : AOK w mi k) {i n0 : Nat} {fs : List Nat} {x : Int32} (hd : decode mi.2.1 pc = .ok (.iaload, 1)) (hi : w.2.2.1[i]? = some (0, n0, fs)) (hx : vp_in x n0) (n : AW w P d mi k (pc + 1) L (.int (h.1 i x.toNatClampNeg) :: st) h) : AW w P d mi k pc L (.int x :: .ref (w.2.1.2.1 i) :: st) h := by
  obtain ⟨p, e, s, m, args, below, meth, c, A⟩ := k
  obtain ⟨k1, k2, k3, k4, k5, k6, k7, k8, k9, k10, k11⟩ := K
  exact fun H lo la a1 a2 a3 a4 => va_iald k1 k2 k8 a2 i 0 (aw_cz_at hi) rfl hx hd (n H lo la a1 a2 a3 a4)
theorem aw_zald (K : AOK w mi k) {i n0 : Nat} {fs : List Nat} {x : Int32} (hd : decode mi.2.1 pc = .ok (.baload, 1)) (hi : w.2.2.1[i]? = some (1, n0, fs)) (hx : vp_in x n0) (n : AW w P d mi k (pc + 1) L (.int (h.1 i x.toNatClampNeg) :: st) h) : AW w P d mi k pc L (.int x :: .ref (w.2.1.2.1 i) :: st) h := by
  obtain ⟨p, e, s, m, args, below, meth, c, A⟩ := k
  obtain ⟨k1, k2, k3, k4, k5, k6, k7, k8, k9, k10, k11⟩ := K
  exact fun H lo la a1 a2 a3 a4 => va_zald k1 k2 k8 a2 i 1 (aw_cz_at hi) rfl hx hd (n H lo la a1 a2 a3 a4)
theorem aw_aald (K : AOK w mi k) {i n0 r : Nat} {fs : List Nat} {x : Int32} (hd : decode mi.2.1 pc = .ok (.aaload, 1)) (hi : w.2.2.1[i]? = some (2, n0, fs)) (hx : vp_in x n0) (hr : fs[x.toNatClampNeg]? = some r) (n : AW w P d mi k (pc + 1) L (.ref (w.2.1.2.1 r) :: st) h) : AW w P d mi k pc L (.int x :: .ref (w.2.1.2.1 i) :: st) h := by
  obtain ⟨p, e, s, m, args, below, meth, c, A⟩ := k
  obtain ⟨k1, k2, k3, k4, k5, k6, k7, k8, k9, k10, k11⟩ := K
  intro H lo la a1 a2 a3 a4
  refine va_aldq k1 k2 k8 a2 i 2 (aw_cz_at hi) rfl hx hd ?_
  rw [hr]
  exact n H lo la a1 a2 a3 a4
theorem aw_rowset {h : HS} {i : Nat} {f : Nat → Int32} {n0 : Nat} {fs : List Nat} (hi : w.2.2.1[i]? = some (0, n0, fs)) : (aw_w w h).set i (w.2.1.2.1 i, .inl (w.2.1.2.2.1, n0, .inl f)) = aw_w w (setR h i f) := by
  show _ = aw_cz _ _ _ _
  rw [aw_cz_set hi (fun a ha => setR_o (h := h) (f := f) a ha)]
  simp [aw_ce, setR]
theorem aw_rowsetZ {h : HS} {i : Nat} {f : Nat → Int32} {n0 : Nat} {fs : List Nat} (hi : w.2.2.1[i]? = some (1, n0, fs)) : (aw_w w h).set i (w.2.1.2.1 i, .inl (w.2.1.2.2.2.1, n0, .inl f)) = aw_w w (setR h i f) := by
  show _ = aw_cz _ _ _ _
  rw [aw_cz_set hi (fun a ha => setR_o (h := h) (f := f) a ha)]
  simp [aw_ce, setR]
theorem aw_iast (K : AOK w mi k) {i n0 : Nat} {fs : List Nat} {x v : Int32} (hd : decode mi.2.1 pc = .ok (.iastore, 1)) (hi : w.2.2.1[i]? = some (0, n0, fs)) (hx : vp_in x n0) (n : AW w P d mi k (pc + 1) L st (setI h i x.toNatClampNeg v)) : AW w P d mi k pc L (.int v :: .int x :: .ref (w.2.1.2.1 i) :: st) h := by
  obtain ⟨p, e, s, m, args, below, meth, c, A⟩ := k
  obtain ⟨k1, k2, k3, k4, k5, k6, k7, k8, k9, k10, k11⟩ := K
  intro H lo la a1 a2 a3 a4
  refine va_iast k1 k2 k8 a2 a3 a4 i 0 (aw_cz_at hi) rfl hx hd (fun H1 lo1 b2 b3 b4 => ?_)
  rw [aw_rowset hi] at b2 b3
  exact n H1 lo1 la a1 b2 b3 b4
theorem aw_zast (K : AOK w mi k) {i n0 : Nat} {fs : List Nat} {x v : Int32} (hd : decode mi.2.1 pc = .ok (.bastore, 1)) (hi : w.2.2.1[i]? = some (1, n0, fs)) (hx : vp_in x n0) (n : AW w P d mi k (pc + 1) L st (setI h i x.toNatClampNeg (vp_nar .boolean v))) : AW w P d mi k pc L (.int v :: .int x :: .ref (w.2.1.2.1 i) :: st) h := by
  obtain ⟨p, e, s, m, args, below, meth, c, A⟩ := k
  obtain ⟨k1, k2, k3, k4, k5, k6, k7, k8, k9, k10, k11⟩ := K
  intro H lo la a1 a2 a3 a4
  refine va_zast k1 k2 k8 a2 a3 a4 i 1 (aw_cz_at hi) rfl hx hd (fun H1 lo1 b2 b3 b4 => ?_)
  rw [aw_rowsetZ hi] at b2 b3
  exact n H1 lo1 la a1 b2 b3 b4
theorem aw_alen (K : AOK w mi k) {i n0 : Nat} {fs : List Nat} {v : Int32} (hd : decode mi.2.1 pc = .ok (.arraylength, 1)) (hi : w.2.2.1[i]? = some (0, n0, fs)) (hv : Int32.ofNat n0 = v) (n : AW w P d mi k (pc + 1) L (.int v :: st) h) : AW w P d mi k pc L (.ref (w.2.1.2.1 i) :: st) h := by
  obtain ⟨p, e, s, m, args, below, meth, c, A⟩ := k
  obtain ⟨k1, k2, k3, k4, k5, k6, k7, k8, k9, k10, k11⟩ := K
  exact fun H lo la a1 a2 a3 a4 => va_alen k1 k2 k8 a2 i 0 (aw_cz_at hi) rfl hv hd (n H lo la a1 a2 a3 a4)

end AWR
end
section
section AWC
variable {w : WT} {P : Option Value → HS → Prop} {d : Nat} {mi : MI} {k : KT} {pc : Nat} {L : List (Option Value)} {st : List Value} {h : HS}
def MF (mi : MI) (n : Nat) : Prop := Cond.code mi.1 mi.2.1 mi.2.2.1 mi.2.2.2 ∈ aw_tb ∧ Cond.initialized mi.1.cls ∈ aw_tb ∧ (mi.1.cls ≠ "java/lang/invoke/MethodHandle" ∧ mi.1.cls ≠ "java/lang/invoke/VarHandle" ∧ (parseMethodDescriptor mi.1.desc).map (fun d => d.parameters.length) = some n) ∧ mi.2.2.1 ≤ 17
def MFs (mi : MI) (n : Nat) : Prop := MF mi n ∧ Cond.static mi.1 ∈ aw_tb
def MFv (mi : MI) (n : Nat) : Prop := MF mi n ∧ Cond.instanceMethod mi.1 ∈ aw_tb ∧ Cond.selects mi.1.cls mi.1 mi.1 ∈ aw_tb
def ML (own : String) (index : Nat) (mi : MI) : Prop := Cond.methodLink own index mi.1 ∈ aw_tb
def MLN (own : String) (index : Nat) (mi : MI) : Prop := Cond.methodLinkNest own index mi.1 "ManyNames" ∈ lw_tbl
def CLS (ci : Nat) (C : String) : Prop := ∃ q : vw_C, vwCl[ci]? = some q ∧ q.1 = C
theorem aw_after {p : Program} {e : Env} {s : State} {m : MethodId} {args : Array Value} {below : List Frame} {meth : Method} {c : Code} {A A1 : Nat → Prop} {H : Heap} {lo : List Loc} {la : Array Slot} {stk : List Value} {P' : Option Value → HS → Prop} {a : Array Value} {R : Room} {Q : State → Prop}
    (hr : va_Run p w.1 e R s m args below meth c H lo 0 0 0 0 (F0 m pc la stk) st (aw_Q w A1 P' a) A1) (hS : va_S A s.heap H lo) (hA : ∀ q, A1 q → A q)
    (kk : ∀ (o : Option Value) (h' : HS) (H1 : Heap) (lo1 : List Loc), P' o h' → va_P w.2.1.1 vwCl (aw_w w h') H1 → va_S A s.heap H1 lo1 → W p w.1 e R s m args below meth c H1 lo1 0 0 Q (F0 m (pc + 3) la (o.toList ++ st))) : W p w.1 e R s m args below meth c H lo 0 0 Q (F0 m pc la stk) := by
  intro T hT X
  obtain ⟨v, st₀, t, T', Lc, h0, X', hL, e1, e2, ⟨⟨o, h', hv, hp, hb⟩, hz, hk⟩, stp⟩ := hr T hT X
  cases hv
  rw [h0] at hz hk
  obtain ⟨t2, a1, b1⟩ := kk v h' T'.heap (lo ++ Lc) hp (by rw [e1]; exact hb)
    ⟨Nat.le_trans hS.1 (by rw [e1]; exact hz), fun q h1 h2 => by rw [e1, hk q (Nat.lt_of_lt_of_le h1 hS.1) (fun z => h2 (hA q z))]; exact hS.2.1 q h1 h2, fun q hq => by
      rcases List.mem_append.mp hq with h | h
      · exact hS.2.2 q h
      · exact hA _ (hL q h)⟩ T' rfl X'
  exact ⟨t2, stp t2 a1, b1⟩
theorem aw_blind {av : List Value} {sz : Nat} : FrameBlind (va_Pc av (aw_B w h sz)) := by
  intro a U g mk q
  obtain ⟨q0, q1, qP, qK, qD, qN, qZ⟩ := q
  exact ⟨q0, q1, qP, va_K.moved (u := U) (U := U.calling g mk a) (Vm.Alike.refl U.vm) qK, qD, aw_N.same (s := U) (U := U.calling g mk a) rfl qN, qZ.go (U := U.calling g mk a) (Vm.Alike.refl U.vm) (Nat.le_refl _) (fun _ _ _ => rfl) (fun _ h => h)⟩
theorem aw_AB {s : State} {A : Nat → Prop} {H : Heap} {lo : List Loc} (hA : ∀ q, s.heap.size ≤ q → A q) (hD : va_D A (aw_w w h)) (hS : va_S A s.heap H lo) : ∀ q, va_A (aw_w w h) H.size q → A q := by
  intro q hq
  rcases hq with ⟨i, e, hi⟩ | hq
  · exact hD.2 i _ hi
  · exact hA q (Nat.le_trans hS.1 hq)
theorem aw_pre {s : State} {A : Nat → Prop} {H : Heap} {lo : List Loc} {av : List Value} (hK : va_K w.2.1.1 vwCl (aw_tys w.2.1) s) (hA : ∀ q, s.heap.size ≤ q → A q) (hN : aw_N s) (hZ : aw_Z w.2.2.2 A s s.heap) (hP : va_P w.2.1.1 vwCl (aw_w w h) H) (hD : va_D A (aw_w w h)) (hS : va_S A s.heap H lo) :
    ∀ U : State, U.heap = H → s.WarmedH U.vm → va_Pc av (aw_B w h H.size) av.toArray U := by
  intro U hU hW
  exact ⟨rfl, by rw [hU], by rw [hU]; exact hP, va_K.moved hW.alike hK, hD.weaken (fun _ _ _ _ => trivial), hN.warm hW, by rw [hU]; exact hZ.go hW.alike hS.1 (fun a h1 h2 => hS.2.1 a h1 h2) (aw_AB hA hD hS)⟩
theorem aw_cb {s : State} {args : Array Value} {mi' : MI} {d' index na : Nat} (hts : ∀ w ∈ aw_ws mi, w.before args s = true) (mf : MF mi' na) (ml : ML mi.1.cls index mi') (hdd : d' < d) : CallB (aw_rm d) s args mi.1.cls index mi'.1 mi'.2.1 mi'.2.2.1 mi'.2.2.2 (aw_ws mi') (aw_rm d') 0 0 na := by
  obtain ⟨f1, f2, f3, f4⟩ := mf
  exact callB_of na hts (aw_goodIn f1) rfl rfl rfl (hts _ (List.mem_cons_of_mem _ f2)) (hts _ (List.mem_cons_of_mem _ ml)) f3 ⟨by show d' + 1 ≤ d; omega, by show 8 + (mi'.2.2.1 + 11) + 36 * d' ≤ 36 * d; omega⟩
/-- a call of a static method -/
theorem aw_callS (K : AOK w mi k) {mi' : MI} {d' index na : Nat} {As stk : List Value} {P' : Option Value → HS → Prop} (C : CT w d' mi' As h P') (hdd : d' < d) (mf : MFs mi' na) (ml : ML mi.1.cls index mi') (hd : decode mi.2.1 pc = .ok (.invokestatic index, 3)) (hna : As.length = na) (hst : (st.map fun v => v.category).sum ≤ 8) (hstk : stk = As.reverse ++ st)
    (n : ∀ o h', P' o h' → AW w P d mi k (pc + 3) L (o.toList ++ st) h') : AW w P d mi k pc L stk h := by
  subst hstk
  obtain ⟨p, e, s, m, args, below, meth, c, A⟩ := k
  obtain ⟨k1, k2, k3, k4, k5, k6, k7, k8, k9, k10, k11⟩ := K
  intro H lo la a1 a2 a3 a4
  refine aw_after (A := A) (va_runS (Ts := aw_ws mi) ⟨k1, k2, k3, k4, k5⟩ (C H.size) ⟨aw_cb k5 mf.1 ml hdd, k5 _ (List.mem_cons_of_mem _ mf.2)⟩ ⟨aw_blind, aw_pre k8 k9 k10 k11 a2 a3 a4⟩ rfl hna a1.1 rfl (lv_room hst) hd ⟨Nat.le_refl _, Nat.le_refl _⟩) a4 (aw_AB k9 a3 a4) (fun o h' H1 lo1 hp hP1 hS1 => ?_)
  exact n o h' hp H1 lo1 la a1 hP1 (aw_D_eq a3) hS1
/-- a call of a static method of a nest mate -/
theorem aw_callSN (K : AOK w mi k) {mi' : MI} {d' index na : Nat} {As stk : List Value} {P' : Option Value → HS → Prop} (C : CT w d' mi' As h P') (hdd : d' < d) (mf : MFs mi' na) (ml : MLN mi.1.cls index mi') (hd : decode mi.2.1 pc = .ok (.invokestatic index, 3)) (hna : As.length = na) (hst : (st.map fun v => v.category).sum ≤ 8) (hstk : stk = As.reverse ++ st)
    (n : ∀ o h', P' o h' → AW w P d mi k (pc + 3) L (o.toList ++ st) h') : AW w P d mi k pc L stk h := by
  subst hstk
  obtain ⟨p, e, s, m, args, below, meth, c, A⟩ := k
  obtain ⟨k1, k2, k3, k4, k5, k6, k7, k8, k9, k10, k11⟩ := K
  obtain ⟨⟨f1, f2, f3, f4⟩, f5⟩ := mf
  intro H lo la a1 a2 a3 a4
  refine aw_after (A := A) (va_runSN (Ts := aw_ws mi) ⟨k1, k2, k3, k4, k5⟩ (C H.size) ⟨va_cnB na k5 (aw_goodIn f1) rfl rfl rfl (k10 _ ml rfl) (k5 _ (List.mem_cons_of_mem _ f2)) f3 ⟨by show d' + 1 ≤ d; omega, by show 8 + (mi'.2.2.1 + 11) + 36 * d' ≤ 36 * d; omega⟩, k5 _ (List.mem_cons_of_mem _ f5), trivial⟩ ⟨aw_blind, aw_pre k8 k9 k10 k11 a2 a3 a4⟩ rfl hna a1.1 rfl (lv_room hst) hd ⟨Nat.le_refl _, Nat.le_refl _⟩) a4 (aw_AB k9 a3 a4) (fun o h' H1 lo1 hp hP1 hS1 => ?_)
  exact n o h' hp H1 lo1 la a1 hP1 (aw_D_eq a3) hS1
/-- a call on an object of the world -/
theorem aw_callV (K : AOK w mi k) {mi' : MI} {d' index na i ci n0 : Nat} {fs : List Nat} {As stk : List Value} {P' : Option Value → HS → Prop} (C : CT w d' mi' (.ref (w.2.1.2.1 i) :: As) h P') (hdd : d' < d) (mf : MFv mi' na) (ml : ML mi.1.cls index mi') (hd : decode mi.2.1 pc = .ok (.invokevirtual index, 3)) (hi : w.2.2.1[i]? = some (ci + 3, n0, fs)) (hc : CLS ci mi'.1.cls) (hna : As.length = na) (hst : (st.map fun v => v.category).sum ≤ 8) (hstk : stk = As.reverse ++ .ref (w.2.1.2.1 i) :: st)
    (n : ∀ o h', P' o h' → AW w P d mi k (pc + 3) L (o.toList ++ st) h') : AW w P d mi k pc L stk h := by
  subst hstk
  obtain ⟨p, e, s, m, args, below, meth, c, A⟩ := k
  obtain ⟨k1, k2, k3, k4, k5, k6, k7, k8, k9, k10, k11⟩ := K
  obtain ⟨q, c1, c2⟩ := hc
  intro H lo la a1 a2 a3 a4
  refine aw_after (A := A) (va_runV (C := mi'.1.cls) (b := w.2.1.2.1 i) (As := As) (rest := st) (Ts := aw_ws mi) ⟨k1, k2, k3, k4, k5⟩ (C H.size) ⟨aw_cb k5 mf.1 ml hdd, k5 _ (List.mem_cons_of_mem _ mf.2.1), k5 _ (List.mem_cons_of_mem _ mf.2.2)⟩ ⟨aw_blind, c2 ▸ va_recv k8 a2 c1 (aw_cz_at hi), aw_pre k8 k9 k10 k11 a2 a3 a4⟩ rfl hna a1.1 rfl (lv_room hst) hd ⟨Nat.le_refl _, Nat.le_refl _⟩) a4 (aw_AB k9 a3 a4) (fun o h' H1 lo1 hp hP1 hS1 => ?_)
  exact n o h' hp H1 lo1 la a1 hP1 (aw_D_eq a3) hS1
/-! ends that are told exactly -/
def DI (r : Int32) (h2 : HS) : Option Value → HS → Prop := fun o h' => o = some (.int r) ∧ h' = h2
def DL (r : Int64) (h2 : HS) : Option Value → HS → Prop := fun o h' => o = some (.long r) ∧ h' = h2
def DV (h2 : HS) : Option Value → HS → Prop := fun o h' => o = none ∧ h' = h2

theorem aw_callS_I (K : AOK w mi k) {mi' : MI} {d' index na : Nat} {As stk : List Value} {r : Int32} {h2 : HS} (C : CT w d' mi' As h (DI r h2)) (hdd : d' < d) (mf : MFs mi' na) (ml : ML mi.1.cls index mi') (hd : decode mi.2.1 pc = .ok (.invokestatic index, 3)) (hna : As.length = na) (hst : (st.map fun v => v.category).sum ≤ 8) (hstk : stk = As.reverse ++ st) (n : AW w P d mi k (pc + 3) L (.int r :: st) h2) : AW w P d mi k pc L stk h := aw_callS K C hdd mf ml hd hna hst hstk (fun o h' q => by obtain ⟨rfl, rfl⟩ := q; exact n)
theorem aw_callS_L (K : AOK w mi k) {mi' : MI} {d' index na : Nat} {As stk : List Value} {r : Int64} {h2 : HS} (C : CT w d' mi' As h (DL r h2)) (hdd : d' < d) (mf : MFs mi' na) (ml : ML mi.1.cls index mi') (hd : decode mi.2.1 pc = .ok (.invokestatic index, 3)) (hna : As.length = na) (hst : (st.map fun v => v.category).sum ≤ 8) (hstk : stk = As.reverse ++ st) (n : AW w P d mi k (pc + 3) L (.long r :: st) h2) : AW w P d mi k pc L stk h := aw_callS K C hdd mf ml hd hna hst hstk (fun o h' q => by obtain ⟨rfl, rfl⟩ := q; exact n)
theorem aw_callS_V (K : AOK w mi k) {mi' : MI} {d' index na : Nat} {As stk : List Value} {h2 : HS} (C : CT w d' mi' As h (DV h2)) (hdd : d' < d) (mf : MFs mi' na) (ml : ML mi.1.cls index mi') (hd : decode mi.2.1 pc = .ok (.invokestatic index, 3)) (hna : As.length = na) (hst : (st.map fun v => v.category).sum ≤ 8) (hstk : stk = As.reverse ++ st) (n : AW w P d mi k (pc + 3) L (st) h2) : AW w P d mi k pc L stk h := aw_callS K C hdd mf ml hd hna hst hstk (fun o h' q => by obtain ⟨rfl, rfl⟩ := q; exact n)
theorem aw_callSN_I (K : AOK w mi k) {mi' : MI} {d' index na : Nat} {As stk : List Value} {r : Int32} {h2 : HS} (C : CT w d' mi' As h (DI r h2)) (hdd : d' < d) (mf : MFs mi' na) (ml : MLN mi.1.cls index mi') (hd : decode mi.2.1 pc = .ok (.invokestatic index, 3)) (hna : As.length = na) (hst : (st.map fun v => v.category).sum ≤ 8) (hstk : stk = As.reverse ++ st) (n : AW w P d mi k (pc + 3) L (.int r :: st) h2) : AW w P d mi k pc L stk h := aw_callSN K C hdd mf ml hd hna hst hstk (fun o h' q => by obtain ⟨rfl, rfl⟩ := q; exact n)
theorem aw_callSN_L (K : AOK w mi k) {mi' : MI} {d' index na : Nat} {As stk : List Value} {r : Int64} {h2 : HS} (C : CT w d' mi' As h (DL r h2)) (hdd : d' < d) (mf : MFs mi' na) (ml : MLN mi.1.cls index mi') (hd : decode mi.2.1 pc = .ok (.invokestatic index, 3)) (hna : As.length = na) (hst : (st.map fun v => v.category).sum ≤ 8) (hstk : stk = As.reverse ++ st) (n : AW w P d mi k (pc + 3) L (.long r :: st) h2) : AW w P d mi k pc L stk h := aw_callSN K C hdd mf ml hd hna hst hstk (fun o h' q => by obtain ⟨rfl, rfl⟩ := q; exact n)
theorem aw_callSN_V (K : AOK w mi k) {mi' : MI} {d' index na : Nat} {As stk : List Value} {h2 : HS} (C : CT w d' mi' As h (DV h2)) (hdd : d' < d) (mf : MFs mi' na) (ml : MLN mi.1.cls index mi') (hd : decode mi.2.1 pc = .ok (.invokestatic index, 3)) (hna : As.length = na) (hst : (st.map fun v => v.category).sum ≤ 8) (hstk : stk = As.reverse ++ st) (n : AW w P d mi k (pc + 3) L (st) h2) : AW w P d mi k pc L stk h := aw_callSN K C hdd mf ml hd hna hst hstk (fun o h' q => by obtain ⟨rfl, rfl⟩ := q; exact n)
theorem aw_callV_I (K : AOK w mi k) {mi' : MI} {d' index na : Nat} {i ci n0 : Nat} {fs : List Nat} {As stk : List Value} {r : Int32} {h2 : HS} (C : CT w d' mi' (.ref (w.2.1.2.1 i) :: As) h (DI r h2)) (hdd : d' < d) (mf : MFv mi' na) (ml : ML mi.1.cls index mi') (hd : decode mi.2.1 pc = .ok (.invokevirtual index, 3)) (hi : w.2.2.1[i]? = some (ci + 3, n0, fs)) (hc : CLS ci mi'.1.cls) (hna : As.length = na) (hst : (st.map fun v => v.category).sum ≤ 8) (hstk : stk = As.reverse ++ .ref (w.2.1.2.1 i) :: st) (n : AW w P d mi k (pc + 3) L (.int r :: st) h2) : AW w P d mi k pc L stk h := aw_callV K C hdd mf ml hd hi hc hna hst hstk (fun o h' q => by obtain ⟨rfl, rfl⟩ := q; exact n)
theorem aw_callV_L (K : AOK w mi k) {mi' : MI} {d' index na : Nat} {i ci n0 : Nat} {fs : List Nat} {As stk : List Value} {r : Int64} {h2 : HS} (C : CT w d' mi' (.ref (w.2.1.2.1 i) :: As) h (DL r h2)) (hdd : d' < d) (mf : MFv mi' na) (ml : ML mi.1.cls index mi') (hd : decode mi.2.1 pc = .ok (.invokevirtual index, 3)) (hi : w.2.2.1[i]? = some (ci + 3, n0, fs)) (hc : CLS ci mi'.1.cls) (hna : As.length = na) (hst : (st.map fun v => v.category).sum ≤ 8) (hstk : stk = As.reverse ++ .ref (w.2.1.2.1 i) :: st) (n : AW w P d mi k (pc + 3) L (.long r :: st) h2) : AW w P d mi k pc L stk h := aw_callV K C hdd mf ml hd hi hc hna hst hstk (fun o h' q => by obtain ⟨rfl, rfl⟩ := q; exact n)
theorem aw_callV_V (K : AOK w mi k) {mi' : MI} {d' index na : Nat} {i ci n0 : Nat} {fs : List Nat} {As stk : List Value} {h2 : HS} (C : CT w d' mi' (.ref (w.2.1.2.1 i) :: As) h (DV h2)) (hdd : d' < d) (mf : MFv mi' na) (ml : ML mi.1.cls index mi') (hd : decode mi.2.1 pc = .ok (.invokevirtual index, 3)) (hi : w.2.2.1[i]? = some (ci + 3, n0, fs)) (hc : CLS ci mi'.1.cls) (hna : As.length = na) (hst : (st.map fun v => v.category).sum ≤ 8) (hstk : stk = As.reverse ++ .ref (w.2.1.2.1 i) :: st) (n : AW w P d mi k (pc + 3) L (st) h2) : AW w P d mi k pc L stk h := aw_callV K C hdd mf ml hd hi hc hna hst hstk (fun o h' q => by obtain ⟨rfl, rfl⟩ := q; exact n)
/-! constants of the pool -/
theorem aw_ldc (K : AOK w mi k) {index : Nat} {v : Int32} (hc : Cond.constant mi.1.cls index v ∈ aw_tb) (hd : decode mi.2.1 pc = .ok (.ldc index, 2)) (n : AW w P d mi k (pc + 2) L (.int v :: st) h) : AW w P d mi k pc L st h := by
  obtain ⟨p, e, s, m, args, below, meth, c, A⟩ := k
  obtain ⟨k1, k2, k3, k4, k5, k6, k7, k8, k9, k10, k11⟩ := K
  exact fun H lo la a1 a2 a3 a4 => lv_ldc k1 k2 k4 (k5 _ (List.mem_cons_of_mem _ hc)) hd (n H lo la a1 a2 a3 a4)
theorem aw_ldcw (K : AOK w mi k) {index : Nat} {v : Int32} (hc : Cond.constant mi.1.cls index v ∈ aw_tb) (hd : decode mi.2.1 pc = .ok (.ldc_w index, 3)) (n : AW w P d mi k (pc + 3) L (.int v :: st) h) : AW w P d mi k pc L st h := by
  obtain ⟨p, e, s, m, args, below, meth, c, A⟩ := k
  obtain ⟨k1, k2, k3, k4, k5, k6, k7, k8, k9, k10, k11⟩ := K
  exact fun H lo la a1 a2 a3 a4 => lv_ldcw k1 k2 k4 (k5 _ (List.mem_cons_of_mem _ hc)) hd (n H lo la a1 a2 a3 a4)
theorem aw_ldc2 (K : AOK w mi k) {index : Nat} {v : Int64} (hc : Cond.constantLong mi.1.cls index v ∈ aw_tb) (hd : decode mi.2.1 pc = .ok (.ldc2_w index, 3)) (n : AW w P d mi k (pc + 3) L (.long v :: st) h) : AW w P d mi k pc L st h := by
  obtain ⟨p, e, s, m, args, below, meth, c, A⟩ := k
  obtain ⟨k1, k2, k3, k4, k5, k6, k7, k8, k9, k10, k11⟩ := K
  exact fun H lo la a1 a2 a3 a4 => lv_ldc2 k1 k2 k4 (k5 _ (List.mem_cons_of_mem _ hc)) hd (n H lo la a1 a2 a3 a4)
/-! the static rows of rules -/
def aw_sn (i : Nat) : String := if i = 0 then "RULES_AT_FIRST" else if i = 1 then "RULES_LEAST" else "RULES_MOST"
def aw_sf (i : Nat) : Nat → Int32 := if i = 0 then aw_r0 else if i = 1 then aw_r1 else aw_r2
theorem aw_Z.at {sta : Nat → Nat} {A : Nat → Prop} {U : State} {H : Heap} (h : aw_Z sta A U H) (i : Nat) (hi : i < 3) : aw_Z1 (aw_sn i) (aw_sf i) (sta i) A U H := by
  match i, hi with
  | 0, _ => exact h.1
  | 1, _ => exact h.2.1
  | 2, _ => exact h.2.2
theorem aw_gets (K : AOK w mi k) {index i : Nat} (hi : i < 3) (hl : Cond.fieldLink mi.1.cls index "ManyNames" (aw_sn i) "[I" ∈ aw_tb) (hd : decode mi.2.1 pc = .ok (.getstatic index, 3)) (n : AW w P d mi k (pc + 3) L (.ref (w.2.2.2 i) :: st) h) : AW w P d mi k pc L st h := by
  obtain ⟨p, e, s, m, args, below, meth, c, A⟩ := k
  obtain ⟨k1, k2, k3, k4, k5, k6, k7, k8, k9, k10, k11⟩ := K
  exact fun H lo la a1 a2 a3 a4 => va_gets k1 k2 (k11.at i hi).1 a4 k4 (k5 _ (List.mem_cons_of_mem _ hl)) (fun _ hx => hx) hd (n H lo la a1 a2 a3 a4)
theorem aw_getsN (K : AOK w mi k) {index i : Nat} (hi : i < 3) (hl : Cond.fieldLinkNest mi.1.cls index "ManyNames" (aw_sn i) "[I" "ManyNames" ∈ lw_tbl) (hd : decode mi.2.1 pc = .ok (.getstatic index, 3)) (n : AW w P d mi k (pc + 3) L (.ref (w.2.2.2 i) :: st) h) : AW w P d mi k pc L st h := by
  obtain ⟨p, e, s, m, args, below, meth, c, A⟩ := k
  obtain ⟨k1, k2, k3, k4, k5, k6, k7, k8, k9, k10, k11⟩ := K
  exact fun H lo la a1 a2 a3 a4 => va_getsN k1 k2 (k11.at i hi).1 a4 k4 (va_Nw.use rfl (k10 _ hl rfl)) (fun _ hx => hx) hd (n H lo la a1 a2 a3 a4)
theorem aw_sld (K : AOK w mi k) {i : Nat} {x : Int32} (hi : i < 3) (hd : decode mi.2.1 pc = .ok (.iaload, 1)) (hx : vp_in x 10) (n : AW w P d mi k (pc + 1) L (.int (aw_sf i x.toNatClampNeg) :: st) h) : AW w P d mi k pc L (.int x :: .ref (w.2.2.2 i) :: st) h := by
  obtain ⟨p, e, s, m, args, below, meth, c, A⟩ := k
  obtain ⟨k1, k2, k3, k4, k5, k6, k7, k8, k9, k10, k11⟩ := K
  have hz := k11.at i hi
  exact fun H lo la a1 a2 a3 a4 => va_sld k1 k2 hz.2.1 hz.2.2.1 hz.2.2.2 a4 hx hd (n H lo la a1 a2 a3 a4)
/-! System.arraycopy -/
def CPW (own : String) (index : Nat) : Prop := Cond.methodLink own index arraycopyName ∈ aw_tb ∧ Cond.native arraycopyName ∈ lw_tbl ∧ Cond.static arraycopyName ∈ aw_tb ∧ Cond.initialized "java/lang/System" ∈ aw_tb
theorem aw_copyS (K : AOK w mi k) {index i q n0 : Nat} {fs : List Nat} {sp dp n1 : Int32} (hi : i < 3) (cp : CPW mi.1.cls index) (hnat : Cond.native arraycopyName ∈ aw_tb) (hq : w.2.2.1[q]? = some (0, n0, fs)) (h1 : ¬ sp < 0) (h2 : ¬ dp < 0) (h3 : ¬ n1 < 0) (h4 : sp.toNatClampNeg + n1.toNatClampNeg ≤ 10) (h5 : dp.toNatClampNeg + n1.toNatClampNeg ≤ n0) (hf : 1 ≤ d) (hlo : (st.map fun v => v.category).sum + (nativeFrameWords "java/lang/System" "arraycopy" 5 + 11) ≤ 36 * d) (hd : decode mi.2.1 pc = .ok (.invokestatic index, 3))
    (n : AW w P d mi k (pc + 3) L st (setR h q (va_cpy (aw_sf i) (h.1 q) sp.toNatClampNeg dp.toNatClampNeg n1.toNatClampNeg))) : AW w P d mi k pc L (.int n1 :: .int dp :: .ref (w.2.1.2.1 q) :: .int sp :: .ref (w.2.2.2 i) :: st) h := by
  obtain ⟨p, e, s, m, args, below, meth, c, A⟩ := k
  obtain ⟨k1, k2, k3, k4, k5, k6, k7, k8, k9, k10, k11⟩ := K
  have hz := k11.at i hi
  intro H lo la a1 a2 a3 a4
  refine va_copyx k1 k2 (k3.trans a1.1.symm) k4 (k5 _ (List.mem_cons_of_mem _ cp.1)) (k5 _ (List.mem_cons_of_mem _ hnat)) (k5 _ (List.mem_cons_of_mem _ cp.2.2.1)) (k5 _ (List.mem_cons_of_mem _ cp.2.2.2)) k8 a2 a3 a4 hz.2.1 hz.2.2.1 hz.2.2.2 q 0 (aw_cz_at hq) rfl h1 h2 h3 h4 h5 hf hlo hd (fun H1 lo1 b2 b3 b4 => ?_)
  rw [aw_rowset hq] at b2 b3
  exact n H1 lo1 la a1 b2 b3 b4
theorem aw_copy (K : AOK w mi k) {index i q n0 n2 : Nat} {fs fs2 : List Nat} {sp dp n1 : Int32} (cp : CPW mi.1.cls index) (hnat : Cond.native arraycopyName ∈ aw_tb) (hi : w.2.2.1[i]? = some (0, n2, fs2)) (hq : w.2.2.1[q]? = some (0, n0, fs)) (h1 : ¬ sp < 0) (h2 : ¬ dp < 0) (h3 : ¬ n1 < 0) (h4 : sp.toNatClampNeg + n1.toNatClampNeg ≤ n2) (h5 : dp.toNatClampNeg + n1.toNatClampNeg ≤ n0) (hf : 1 ≤ d) (hlo : (st.map fun v => v.category).sum + (nativeFrameWords "java/lang/System" "arraycopy" 5 + 11) ≤ 36 * d) (hd : decode mi.2.1 pc = .ok (.invokestatic index, 3))
    (n : AW w P d mi k (pc + 3) L st (setR h q (va_cpy (h.1 i) (h.1 q) sp.toNatClampNeg dp.toNatClampNeg n1.toNatClampNeg))) : AW w P d mi k pc L (.int n1 :: .int dp :: .ref (w.2.1.2.1 q) :: .int sp :: .ref (w.2.1.2.1 i) :: st) h := by
  obtain ⟨p, e, s, m, args, below, meth, c, A⟩ := k
  obtain ⟨k1, k2, k3, k4, k5, k6, k7, k8, k9, k10, k11⟩ := K
  intro H lo la a1 a2 a3 a4
  refine va_copyi k1 k2 (k3.trans a1.1.symm) k4 (k5 _ (List.mem_cons_of_mem _ cp.1)) (k5 _ (List.mem_cons_of_mem _ hnat)) (k5 _ (List.mem_cons_of_mem _ cp.2.2.1)) (k5 _ (List.mem_cons_of_mem _ cp.2.2.2)) k8 a2 a3 a4 i q 0 0 (aw_cz_at hi) (aw_cz_at hq) rfl rfl rfl h1 h2 h3 h4 h5 (fun _ _ => rfl) hf hlo hd (fun H1 lo1 b2 b3 b4 => ?_)
  rw [aw_rowset hq] at b2 b3
  exact n H1 lo1 la a1 b2 b3 b4
/-! Math -/
theorem aw_mmax (K : AOK w mi k) {index : Nat} {x y : Int32} (c1 : Cond.methodLink mi.1.cls index Lib.Math.max.name ∈ aw_tb) (c2 : Cond.static Lib.Math.max.name ∈ aw_tb) (c3 : Cond.initialized "java/lang/Math" ∈ aw_tb) (c4 : Cond.code Lib.Math.max.name Lib.Math.max.code 2 (some .int) ∈ aw_tb) (hf : 1 ≤ d) (hlo : (st.map fun v => v.category).sum + 13 ≤ 36 * d) (hd : decode mi.2.1 pc = .ok (.invokestatic index, 3))
    (n : AW w P d mi k (pc + 3) L (.int (if x < y then y else x) :: st) h) : AW w P d mi k pc L (.int y :: .int x :: st) h := by
  obtain ⟨p, e, s, m, args, below, meth, c, A⟩ := k
  obtain ⟨k1, k2, k3, k4, k5, k6, k7, k8, k9, k10, k11⟩ := K
  exact fun H lo la a1 a2 a3 a4 => va_mmax k1 k2 (k3.trans a1.1.symm) k4 (k5 _ (List.mem_cons_of_mem _ c1)) (k5 _ (List.mem_cons_of_mem _ c2)) (k5 _ (List.mem_cons_of_mem _ c3)) (k5 _ (List.mem_cons_of_mem _ c4)) hf hlo (Nat.zero_le _) (Nat.zero_le _) hd (n H lo la a1 a2 a3 a4)
theorem aw_mmin (K : AOK w mi k) {index : Nat} {x y : Int32} (c1 : Cond.methodLink mi.1.cls index Lib.Math.min.name ∈ aw_tb) (c2 : Cond.static Lib.Math.min.name ∈ aw_tb) (c3 : Cond.initialized "java/lang/Math" ∈ aw_tb) (c4 : Cond.code Lib.Math.min.name Lib.Math.min.code 2 (some .int) ∈ aw_tb) (hf : 1 ≤ d) (hlo : (st.map fun v => v.category).sum + 13 ≤ 36 * d) (hd : decode mi.2.1 pc = .ok (.invokestatic index, 3))
    (n : AW w P d mi k (pc + 3) L (.int (if y < x then y else x) :: st) h) : AW w P d mi k pc L (.int y :: .int x :: st) h := by
  obtain ⟨p, e, s, m, args, below, meth, c, A⟩ := k
  obtain ⟨k1, k2, k3, k4, k5, k6, k7, k8, k9, k10, k11⟩ := K
  exact fun H lo la a1 a2 a3 a4 => va_mmin k1 k2 (k3.trans a1.1.symm) k4 (k5 _ (List.mem_cons_of_mem _ c1)) (k5 _ (List.mem_cons_of_mem _ c2)) (k5 _ (List.mem_cons_of_mem _ c3)) (k5 _ (List.mem_cons_of_mem _ c4)) hf hlo (Nat.zero_le _) (Nat.zero_le _) hd (n H lo la a1 a2 a3 a4)
/-! switches -/
def aw_sw (pc : Nat) (x : Int32) (F : Nat → Prop) : Int → List Int → Prop
  | _, [] => True
  | v, off :: r => (x.toInt = v → F ((pc : Int) + off).toNat) ∧ aw_sw pc x F (v + 1) r
def aw_swp (pc : Nat) : List Int → Bool
  | [] => true
  | off :: r => decide (0 ≤ (pc : Int) + off) && aw_swp pc r
theorem aw_sw_at {pc : Nat} {x : Int32} {F : Nat → Prop} : ∀ (offs : List Int) (lo : Int) (i : Nat) (off : Int), aw_sw pc x F lo offs → aw_swp pc offs = true → offs[i]? = some off → x.toInt = lo + i → F ((pc : Int) + off).toNat ∧ 0 ≤ (pc : Int) + off
  | [], lo, i, off, _, _, h, _ => by simp at h
  | o :: r, lo, 0, off, hs, hp, h, hx => by
    simp at h
    subst h
    simp only [aw_swp, Bool.and_eq_true, decide_eq_true_eq] at hp
    exact ⟨hs.1 (by simpa using hx), hp.1⟩
  | o :: r, lo, i + 1, off, hs, hp, h, hx => by
    simp only [aw_swp, Bool.and_eq_true, decide_eq_true_eq] at hp
    exact aw_sw_at r (lo + 1) i off hs.2 hp.2 (by simpa using h) (by rw [hx]; push_cast; omega)
theorem aw_tsw (K : AOK w mi k) {dflt lo hi : Int} {offs : Array Int} {len tgt : Nat} {x : Int32} (hd : decode mi.2.1 pc = .ok (.tableswitch dflt lo hi offs, len)) (ht : (pc : Int) + dflt = (tgt : Int)) (hsz : lo + offs.size = hi + 1) (hp : aw_swp pc offs.toList = true)
    (hs : aw_sw pc x (fun t => AW w P d mi k t L st h) lo offs.toList) (hdef : (x.toInt < lo ∨ hi < x.toInt) → AW w P d mi k tgt L st h) : AW w P d mi k pc L (.int x :: st) h := by
  by_cases hx : x.toInt < lo ∨ hi < x.toInt
  · have hn := hdef hx
    obtain ⟨p, e, s, m, args, below, meth, c, A⟩ := k
    exact fun H l1 la a1 a2 a3 a4 => lv_tableOut K.1 K.2.1 hd hx ht (hn H l1 la a1 a2 a3 a4)
  · have h1 : ¬ x.toInt < lo := fun q => hx (Or.inl q)
    have h2 : ¬ hi < x.toInt := fun q => hx (Or.inr q)
    have hlt : (x.toInt - lo).toNat < offs.size := by omega
    obtain ⟨hF, h0⟩ := aw_sw_at offs.toList lo (x.toInt - lo).toNat offs[(x.toInt - lo).toNat] hs hp (by rw [Array.getElem?_toList]; exact Array.getElem?_eq_getElem hlt) (by omega)
    obtain ⟨p, e, s, m, args, below, meth, c, A⟩ := k
    exact fun H l1 la a1 a2 a3 a4 => lv_tableIn K.1 K.2.1 hd h1 h2 (Array.getElem?_eq_getElem hlt) (by omega) (hF H l1 la a1 a2 a3 a4)
end AWC
end
