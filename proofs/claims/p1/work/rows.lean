section
-- ===== PART A: goes FIRST, ahead of the names: the tables' words, and 'selects' of the private methods out of them =====
/-- a private method of a class that the tables say can be made, by its rows of tables_1 -/
def lw_okq (q : MethodName × Nat) : Prop := (q.1.cls ≠ "java/lang/invoke/MethodHandle" ∧ q.1.cls ≠ "java/lang/invoke/VarHandle") ∧ Cond.instantiable q.1.cls q.2 ∈ tables_1 ∧ Cond.privateMethod q.1 ∈ tables_1 ∧ Cond.instanceMethod q.1 ∈ tables_1
theorem lw_p0 : lw_okq (⟨"ManyNames", "isName", "(I)Z"⟩, 13) := ⟨⟨by decide +kernel, by decide +kernel⟩, List.mem_of_getElem? (i := 18) (by decide +kernel), List.mem_of_getElem? (i := 269) (by decide +kernel), List.mem_of_getElem? (i := 270) (by decide +kernel)⟩
theorem lw_p1 : lw_okq (⟨"ManyNames", "pledgeRoom", "(I)I"⟩, 13) := ⟨⟨by decide +kernel, by decide +kernel⟩, List.mem_of_getElem? (i := 18) (by decide +kernel), List.mem_of_getElem? (i := 280) (by decide +kernel), List.mem_of_getElem? (i := 281) (by decide +kernel)⟩
theorem lw_p2 : lw_okq (⟨"ManyNames", "arePair", "(II)Z"⟩, 13) := ⟨⟨by decide +kernel, by decide +kernel⟩, List.mem_of_getElem? (i := 18) (by decide +kernel), List.mem_of_getElem? (i := 288) (by decide +kernel), List.mem_of_getElem? (i := 289) (by decide +kernel)⟩
theorem lw_p3 : lw_okq (⟨"ManyNames", "isTie", "(I)Z"⟩, 13) := ⟨⟨by decide +kernel, by decide +kernel⟩, List.mem_of_getElem? (i := 18) (by decide +kernel), List.mem_of_getElem? (i := 300) (by decide +kernel), List.mem_of_getElem? (i := 301) (by decide +kernel)⟩
theorem lw_p4 : lw_okq (⟨"ManyNames", "roomOf", "(I)I"⟩, 13) := ⟨⟨by decide +kernel, by decide +kernel⟩, List.mem_of_getElem? (i := 18) (by decide +kernel), List.mem_of_getElem? (i := 304) (by decide +kernel), List.mem_of_getElem? (i := 305) (by decide +kernel)⟩
theorem lw_p5 : lw_okq (⟨"ManyNames", "hasMadeEnd", "(I)Z"⟩, 13) := ⟨⟨by decide +kernel, by decide +kernel⟩, List.mem_of_getElem? (i := 18) (by decide +kernel), List.mem_of_getElem? (i := 308) (by decide +kernel), List.mem_of_getElem? (i := 309) (by decide +kernel)⟩
theorem lw_p6 : lw_okq (⟨"ManyNames", "isFined", "(I)Z"⟩, 13) := ⟨⟨by decide +kernel, by decide +kernel⟩, List.mem_of_getElem? (i := 18) (by decide +kernel), List.mem_of_getElem? (i := 318) (by decide +kernel), List.mem_of_getElem? (i := 319) (by decide +kernel)⟩
theorem lw_p7 : lw_okq (⟨"ManyNames", "givenTo", "(I)I"⟩, 13) := ⟨⟨by decide +kernel, by decide +kernel⟩, List.mem_of_getElem? (i := 18) (by decide +kernel), List.mem_of_getElem? (i := 330) (by decide +kernel), List.mem_of_getElem? (i := 331) (by decide +kernel)⟩
theorem lw_p8 : lw_okq (⟨"ManyNames", "openTies", "(I)I"⟩, 13) := ⟨⟨by decide +kernel, by decide +kernel⟩, List.mem_of_getElem? (i := 18) (by decide +kernel), List.mem_of_getElem? (i := 334) (by decide +kernel), List.mem_of_getElem? (i := 335) (by decide +kernel)⟩
theorem lw_p9 : lw_okq (⟨"ManyNames", "standingFor", "(I)I"⟩, 13) := ⟨⟨by decide +kernel, by decide +kernel⟩, List.mem_of_getElem? (i := 18) (by decide +kernel), List.mem_of_getElem? (i := 345) (by decide +kernel), List.mem_of_getElem? (i := 346) (by decide +kernel)⟩
theorem lw_p10 : lw_okq (⟨"ManyNames$Tape", "readToken", "()V"⟩, 8) := ⟨⟨by decide +kernel, by decide +kernel⟩, List.mem_of_getElem? (i := 128) (by decide +kernel), List.mem_of_getElem? (i := 379) (by decide +kernel), List.mem_of_getElem? (i := 380) (by decide +kernel)⟩
theorem lw_p11 : lw_okq (⟨"ManyNames$Tape", "isLetter", "(I)Z"⟩, 8) := ⟨⟨by decide +kernel, by decide +kernel⟩, List.mem_of_getElem? (i := 128) (by decide +kernel), List.mem_of_getElem? (i := 383) (by decide +kernel), List.mem_of_getElem? (i := 384) (by decide +kernel)⟩
theorem lw_p12 : lw_okq (⟨"ManyNames$Tape", "readRule", "()V"⟩, 8) := ⟨⟨by decide +kernel, by decide +kernel⟩, List.mem_of_getElem? (i := 128) (by decide +kernel), List.mem_of_getElem? (i := 388) (by decide +kernel), List.mem_of_getElem? (i := 389) (by decide +kernel)⟩
theorem lw_p13 : lw_okq (⟨"ManyNames$Tape", "isText", "(Ljava/lang/String;)Z"⟩, 8) := ⟨⟨by decide +kernel, by decide +kernel⟩, List.mem_of_getElem? (i := 128) (by decide +kernel), List.mem_of_getElem? (i := 406) (by decide +kernel), List.mem_of_getElem? (i := 407) (by decide +kernel)⟩
theorem lw_p14 : lw_okq (⟨"ManyNames$Tape", "isFigure", "(I)Z"⟩, 8) := ⟨⟨by decide +kernel, by decide +kernel⟩, List.mem_of_getElem? (i := 128) (by decide +kernel), List.mem_of_getElem? (i := 458) (by decide +kernel), List.mem_of_getElem? (i := 459) (by decide +kernel)⟩
theorem lw_p15 : lw_okq (⟨"ManyNames$Tape", "readNumber", "()V"⟩, 8) := ⟨⟨by decide +kernel, by decide +kernel⟩, List.mem_of_getElem? (i := 128) (by decide +kernel), List.mem_of_getElem? (i := 462) (by decide +kernel), List.mem_of_getElem? (i := 463) (by decide +kernel)⟩
def lw_privs_1 : List (MethodName × Nat) := [(⟨"ManyNames", "isName", "(I)Z"⟩, 13), (⟨"ManyNames", "pledgeRoom", "(I)I"⟩, 13), (⟨"ManyNames", "arePair", "(II)Z"⟩, 13), (⟨"ManyNames", "isTie", "(I)Z"⟩, 13), (⟨"ManyNames", "roomOf", "(I)I"⟩, 13), (⟨"ManyNames", "hasMadeEnd", "(I)Z"⟩, 13), (⟨"ManyNames", "isFined", "(I)Z"⟩, 13), (⟨"ManyNames", "givenTo", "(I)I"⟩, 13), (⟨"ManyNames", "openTies", "(I)I"⟩, 13), (⟨"ManyNames", "standingFor", "(I)I"⟩, 13), (⟨"ManyNames$Tape", "readToken", "()V"⟩, 8), (⟨"ManyNames$Tape", "isLetter", "(I)Z"⟩, 8), (⟨"ManyNames$Tape", "readRule", "()V"⟩, 8), (⟨"ManyNames$Tape", "isText", "(Ljava/lang/String;)Z"⟩, 8), (⟨"ManyNames$Tape", "isFigure", "(I)Z"⟩, 8), (⟨"ManyNames$Tape", "readNumber", "()V"⟩, 8)]
theorem lw_r1 : ∀ q ∈ lw_privs_1, lw_okq q := List.forall_mem_cons.mpr ⟨lw_p0, List.forall_mem_cons.mpr ⟨lw_p1, List.forall_mem_cons.mpr ⟨lw_p2, List.forall_mem_cons.mpr ⟨lw_p3, List.forall_mem_cons.mpr ⟨lw_p4, List.forall_mem_cons.mpr ⟨lw_p5, List.forall_mem_cons.mpr ⟨lw_p6, List.forall_mem_cons.mpr ⟨lw_p7, List.forall_mem_cons.mpr ⟨lw_p8, List.forall_mem_cons.mpr ⟨lw_p9, List.forall_mem_cons.mpr ⟨lw_p10, List.forall_mem_cons.mpr ⟨lw_p11, List.forall_mem_cons.mpr ⟨lw_p12, List.forall_mem_cons.mpr ⟨lw_p13, List.forall_mem_cons.mpr ⟨lw_p14, List.forall_mem_cons.mpr ⟨lw_p15, fun _ h => absurd h List.not_mem_nil⟩⟩⟩⟩⟩⟩⟩⟩⟩⟩⟩⟩⟩⟩⟩⟩
theorem lw_p16 : lw_okq (⟨"ManyNames$Tape", "readLine", "([I)V"⟩, 8) := ⟨⟨by decide +kernel, by decide +kernel⟩, List.mem_of_getElem? (i := 128) (by decide +kernel), List.mem_of_getElem? (i := 466) (by decide +kernel), List.mem_of_getElem? (i := 467) (by decide +kernel)⟩
theorem lw_p17 : lw_okq (⟨"ManyNames$Tape", "stands", "(I)Z"⟩, 8) := ⟨⟨by decide +kernel, by decide +kernel⟩, List.mem_of_getElem? (i := 128) (by decide +kernel), List.mem_of_getElem? (i := 470) (by decide +kernel), List.mem_of_getElem? (i := 471) (by decide +kernel)⟩
theorem lw_p18 : lw_okq (⟨"ManyNames", "layFlow", "()V"⟩, 13) := ⟨⟨by decide +kernel, by decide +kernel⟩, List.mem_of_getElem? (i := 18) (by decide +kernel), List.mem_of_getElem? (i := 492) (by decide +kernel), List.mem_of_getElem? (i := 493) (by decide +kernel)⟩
theorem lw_p19 : lw_okq (⟨"ManyNames$Flow", "widen", "(III)V"⟩, 7) := ⟨⟨by decide +kernel, by decide +kernel⟩, List.mem_of_getElem? (i := 161) (by decide +kernel), List.mem_of_getElem? (i := 507) (by decide +kernel), List.mem_of_getElem? (i := 508) (by decide +kernel)⟩
theorem lw_p20 : lw_okq (⟨"ManyNames$Flow", "search", "(I)I"⟩, 7) := ⟨⟨by decide +kernel, by decide +kernel⟩, List.mem_of_getElem? (i := 161) (by decide +kernel), List.mem_of_getElem? (i := 520) (by decide +kernel), List.mem_of_getElem? (i := 521) (by decide +kernel)⟩
theorem lw_p21 : lw_okq (⟨"ManyNames$Flow", "push", "(I)I"⟩, 7) := ⟨⟨by decide +kernel, by decide +kernel⟩, List.mem_of_getElem? (i := 161) (by decide +kernel), List.mem_of_getElem? (i := 525) (by decide +kernel), List.mem_of_getElem? (i := 526) (by decide +kernel)⟩
theorem lw_p22 : lw_okq (⟨"ManyNames", "isHeap", "(I)Z"⟩, 13) := ⟨⟨by decide +kernel, by decide +kernel⟩, List.mem_of_getElem? (i := 18) (by decide +kernel), List.mem_of_getElem? (i := 536) (by decide +kernel), List.mem_of_getElem? (i := 537) (by decide +kernel)⟩
theorem lw_p23 : lw_okq (⟨"ManyNames", "tiesOutOf", "(I)I"⟩, 13) := ⟨⟨by decide +kernel, by decide +kernel⟩, List.mem_of_getElem? (i := 18) (by decide +kernel), List.mem_of_getElem? (i := 544) (by decide +kernel), List.mem_of_getElem? (i := 545) (by decide +kernel)⟩
theorem lw_p24 : lw_okq (⟨"ManyNames", "givenBeyond", "(I)I"⟩, 13) := ⟨⟨by decide +kernel, by decide +kernel⟩, List.mem_of_getElem? (i := 18) (by decide +kernel), List.mem_of_getElem? (i := 548) (by decide +kernel), List.mem_of_getElem? (i := 549) (by decide +kernel)⟩
theorem lw_p25 : lw_okq (⟨"ManyNames", "isPlain", "(I)Z"⟩, 13) := ⟨⟨by decide +kernel, by decide +kernel⟩, List.mem_of_getElem? (i := 18) (by decide +kernel), List.mem_of_getElem? (i := 556) (by decide +kernel), List.mem_of_getElem? (i := 557) (by decide +kernel)⟩
theorem lw_p26 : lw_okq (⟨"ManyNames", "fillTrusts", "()V"⟩, 13) := ⟨⟨by decide +kernel, by decide +kernel⟩, List.mem_of_getElem? (i := 18) (by decide +kernel), List.mem_of_getElem? (i := 564) (by decide +kernel), List.mem_of_getElem? (i := 565) (by decide +kernel)⟩
theorem lw_p27 : lw_okq (⟨"ManyNames", "refusalOf", "(IIIII)I"⟩, 13) := ⟨⟨by decide +kernel, by decide +kernel⟩, List.mem_of_getElem? (i := 18) (by decide +kernel), List.mem_of_getElem? (i := 572) (by decide +kernel), List.mem_of_getElem? (i := 573) (by decide +kernel)⟩
theorem lw_p28 : lw_okq (⟨"ManyNames$Words", "isNewDeal", "(I)Z"⟩, 8) := ⟨⟨by decide +kernel, by decide +kernel⟩, List.mem_of_getElem? (i := 90) (by decide +kernel), List.mem_of_getElem? (i := 580) (by decide +kernel), List.mem_of_getElem? (i := 581) (by decide +kernel)⟩
theorem lw_p29 : lw_okq (⟨"ManyNames", "isWord", "(I)Z"⟩, 13) := ⟨⟨by decide +kernel, by decide +kernel⟩, List.mem_of_getElem? (i := 18) (by decide +kernel), List.mem_of_getElem? (i := 588) (by decide +kernel), List.mem_of_getElem? (i := 589) (by decide +kernel)⟩
theorem lw_p30 : lw_okq (⟨"ManyNames", "sayersOf", "(I)I"⟩, 13) := ⟨⟨by decide +kernel, by decide +kernel⟩, List.mem_of_getElem? (i := 18) (by decide +kernel), List.mem_of_getElem? (i := 604) (by decide +kernel), List.mem_of_getElem? (i := 605) (by decide +kernel)⟩
theorem lw_p31 : lw_okq (⟨"ManyNames", "weighSayers", "(I)I"⟩, 13) := ⟨⟨by decide +kernel, by decide +kernel⟩, List.mem_of_getElem? (i := 18) (by decide +kernel), List.mem_of_getElem? (i := 608) (by decide +kernel), List.mem_of_getElem? (i := 609) (by decide +kernel)⟩
def lw_privs_2 : List (MethodName × Nat) := [(⟨"ManyNames$Tape", "readLine", "([I)V"⟩, 8), (⟨"ManyNames$Tape", "stands", "(I)Z"⟩, 8), (⟨"ManyNames", "layFlow", "()V"⟩, 13), (⟨"ManyNames$Flow", "widen", "(III)V"⟩, 7), (⟨"ManyNames$Flow", "search", "(I)I"⟩, 7), (⟨"ManyNames$Flow", "push", "(I)I"⟩, 7), (⟨"ManyNames", "isHeap", "(I)Z"⟩, 13), (⟨"ManyNames", "tiesOutOf", "(I)I"⟩, 13), (⟨"ManyNames", "givenBeyond", "(I)I"⟩, 13), (⟨"ManyNames", "isPlain", "(I)Z"⟩, 13), (⟨"ManyNames", "fillTrusts", "()V"⟩, 13), (⟨"ManyNames", "refusalOf", "(IIIII)I"⟩, 13), (⟨"ManyNames$Words", "isNewDeal", "(I)Z"⟩, 8), (⟨"ManyNames", "isWord", "(I)Z"⟩, 13), (⟨"ManyNames", "sayersOf", "(I)I"⟩, 13), (⟨"ManyNames", "weighSayers", "(I)I"⟩, 13)]
theorem lw_r2 : ∀ q ∈ lw_privs_2, lw_okq q := List.forall_mem_cons.mpr ⟨lw_p16, List.forall_mem_cons.mpr ⟨lw_p17, List.forall_mem_cons.mpr ⟨lw_p18, List.forall_mem_cons.mpr ⟨lw_p19, List.forall_mem_cons.mpr ⟨lw_p20, List.forall_mem_cons.mpr ⟨lw_p21, List.forall_mem_cons.mpr ⟨lw_p22, List.forall_mem_cons.mpr ⟨lw_p23, List.forall_mem_cons.mpr ⟨lw_p24, List.forall_mem_cons.mpr ⟨lw_p25, List.forall_mem_cons.mpr ⟨lw_p26, List.forall_mem_cons.mpr ⟨lw_p27, List.forall_mem_cons.mpr ⟨lw_p28, List.forall_mem_cons.mpr ⟨lw_p29, List.forall_mem_cons.mpr ⟨lw_p30, List.forall_mem_cons.mpr ⟨lw_p31, fun _ h => absurd h List.not_mem_nil⟩⟩⟩⟩⟩⟩⟩⟩⟩⟩⟩⟩⟩⟩⟩⟩
theorem lw_p32 : lw_okq (⟨"ManyNames", "summedMarks", "()I"⟩, 13) := ⟨⟨by decide +kernel, by decide +kernel⟩, List.mem_of_getElem? (i := 18) (by decide +kernel), List.mem_of_getElem? (i := 621) (by decide +kernel), List.mem_of_getElem? (i := 622) (by decide +kernel)⟩
theorem lw_p33 : lw_okq (⟨"ManyNames", "greatestStakes", "(IZ)I"⟩, 13) := ⟨⟨by decide +kernel, by decide +kernel⟩, List.mem_of_getElem? (i := 18) (by decide +kernel), List.mem_of_getElem? (i := 638) (by decide +kernel), List.mem_of_getElem? (i := 639) (by decide +kernel)⟩
theorem lw_p34 : lw_okq (⟨"ManyNames", "wordsWithin", "(IZ)I"⟩, 13) := ⟨⟨by decide +kernel, by decide +kernel⟩, List.mem_of_getElem? (i := 18) (by decide +kernel), List.mem_of_getElem? (i := 646) (by decide +kernel), List.mem_of_getElem? (i := 647) (by decide +kernel)⟩
theorem lw_p35 : lw_okq (⟨"ManyNames", "waysOf", "(II)J"⟩, 13) := ⟨⟨by decide +kernel, by decide +kernel⟩, List.mem_of_getElem? (i := 18) (by decide +kernel), List.mem_of_getElem? (i := 655) (by decide +kernel), List.mem_of_getElem? (i := 656) (by decide +kernel)⟩
theorem lw_p36 : lw_okq (⟨"ManyNames", "sellingNames", "()I"⟩, 13) := ⟨⟨by decide +kernel, by decide +kernel⟩, List.mem_of_getElem? (i := 18) (by decide +kernel), List.mem_of_getElem? (i := 674) (by decide +kernel), List.mem_of_getElem? (i := 675) (by decide +kernel)⟩
theorem lw_p37 : lw_okq (⟨"ManyNames", "boughtRoom", "(I)I"⟩, 13) := ⟨⟨by decide +kernel, by decide +kernel⟩, List.mem_of_getElem? (i := 18) (by decide +kernel), List.mem_of_getElem? (i := 679) (by decide +kernel), List.mem_of_getElem? (i := 680) (by decide +kernel)⟩
theorem lw_p38 : lw_okq (⟨"ManyNames", "gainBy", "(III)I"⟩, 13) := ⟨⟨by decide +kernel, by decide +kernel⟩, List.mem_of_getElem? (i := 18) (by decide +kernel), List.mem_of_getElem? (i := 683) (by decide +kernel), List.mem_of_getElem? (i := 684) (by decide +kernel)⟩
theorem lw_p39 : lw_okq (⟨"ManyNames", "countTrue", "([Z)I"⟩, 13) := ⟨⟨by decide +kernel, by decide +kernel⟩, List.mem_of_getElem? (i := 18) (by decide +kernel), List.mem_of_getElem? (i := 748) (by decide +kernel), List.mem_of_getElem? (i := 749) (by decide +kernel)⟩
theorem lw_p40 : lw_okq (⟨"ManyNames", "countFined", "()I"⟩, 13) := ⟨⟨by decide +kernel, by decide +kernel⟩, List.mem_of_getElem? (i := 18) (by decide +kernel), List.mem_of_getElem? (i := 752) (by decide +kernel), List.mem_of_getElem? (i := 753) (by decide +kernel)⟩
theorem lw_p41 : lw_okq (⟨"ManyNamesModel", "firstRules", "()V"⟩, 44) := ⟨⟨by decide +kernel, by decide +kernel⟩, List.mem_of_getElem? (i := 763) (by decide +kernel), List.mem_of_getElem? (i := 769) (by decide +kernel), List.mem_of_getElem? (i := 770) (by decide +kernel)⟩
theorem lw_p42 : lw_okq (⟨"ManyNamesModel", "keepRules", "()V"⟩, 44) := ⟨⟨by decide +kernel, by decide +kernel⟩, List.mem_of_getElem? (i := 763) (by decide +kernel), List.mem_of_getElem? (i := 773) (by decide +kernel), List.mem_of_getElem? (i := 774) (by decide +kernel)⟩
theorem lw_p43 : lw_okq (⟨"ManyNamesModel", "isName", "(I)Z"⟩, 44) := ⟨⟨by decide +kernel, by decide +kernel⟩, List.mem_of_getElem? (i := 763) (by decide +kernel), List.mem_of_getElem? (i := 922) (by decide +kernel), List.mem_of_getElem? (i := 923) (by decide +kernel)⟩
theorem lw_p44 : lw_okq (⟨"ManyNamesModel", "pledged", "(I)I"⟩, 44) := ⟨⟨by decide +kernel, by decide +kernel⟩, List.mem_of_getElem? (i := 763) (by decide +kernel), List.mem_of_getElem? (i := 930) (by decide +kernel), List.mem_of_getElem? (i := 931) (by decide +kernel)⟩
theorem lw_p45 : lw_okq (⟨"ManyNamesModel", "isTie", "(I)Z"⟩, 44) := ⟨⟨by decide +kernel, by decide +kernel⟩, List.mem_of_getElem? (i := 763) (by decide +kernel), List.mem_of_getElem? (i := 943) (by decide +kernel), List.mem_of_getElem? (i := 944) (by decide +kernel)⟩
theorem lw_p46 : lw_okq (⟨"ManyNamesModel", "roomOf", "(I)I"⟩, 44) := ⟨⟨by decide +kernel, by decide +kernel⟩, List.mem_of_getElem? (i := 763) (by decide +kernel), List.mem_of_getElem? (i := 948) (by decide +kernel), List.mem_of_getElem? (i := 949) (by decide +kernel)⟩
theorem lw_p47 : lw_okq (⟨"ManyNamesModel", "isFined", "(I)Z"⟩, 44) := ⟨⟨by decide +kernel, by decide +kernel⟩, List.mem_of_getElem? (i := 763) (by decide +kernel), List.mem_of_getElem? (i := 955) (by decide +kernel), List.mem_of_getElem? (i := 956) (by decide +kernel)⟩
def lw_privs_3 : List (MethodName × Nat) := [(⟨"ManyNames", "summedMarks", "()I"⟩, 13), (⟨"ManyNames", "greatestStakes", "(IZ)I"⟩, 13), (⟨"ManyNames", "wordsWithin", "(IZ)I"⟩, 13), (⟨"ManyNames", "waysOf", "(II)J"⟩, 13), (⟨"ManyNames", "sellingNames", "()I"⟩, 13), (⟨"ManyNames", "boughtRoom", "(I)I"⟩, 13), (⟨"ManyNames", "gainBy", "(III)I"⟩, 13), (⟨"ManyNames", "countTrue", "([Z)I"⟩, 13), (⟨"ManyNames", "countFined", "()I"⟩, 13), (⟨"ManyNamesModel", "firstRules", "()V"⟩, 44), (⟨"ManyNamesModel", "keepRules", "()V"⟩, 44), (⟨"ManyNamesModel", "isName", "(I)Z"⟩, 44), (⟨"ManyNamesModel", "pledged", "(I)I"⟩, 44), (⟨"ManyNamesModel", "isTie", "(I)Z"⟩, 44), (⟨"ManyNamesModel", "roomOf", "(I)I"⟩, 44), (⟨"ManyNamesModel", "isFined", "(I)Z"⟩, 44)]
theorem lw_r3 : ∀ q ∈ lw_privs_3, lw_okq q := List.forall_mem_cons.mpr ⟨lw_p32, List.forall_mem_cons.mpr ⟨lw_p33, List.forall_mem_cons.mpr ⟨lw_p34, List.forall_mem_cons.mpr ⟨lw_p35, List.forall_mem_cons.mpr ⟨lw_p36, List.forall_mem_cons.mpr ⟨lw_p37, List.forall_mem_cons.mpr ⟨lw_p38, List.forall_mem_cons.mpr ⟨lw_p39, List.forall_mem_cons.mpr ⟨lw_p40, List.forall_mem_cons.mpr ⟨lw_p41, List.forall_mem_cons.mpr ⟨lw_p42, List.forall_mem_cons.mpr ⟨lw_p43, List.forall_mem_cons.mpr ⟨lw_p44, List.forall_mem_cons.mpr ⟨lw_p45, List.forall_mem_cons.mpr ⟨lw_p46, List.forall_mem_cons.mpr ⟨lw_p47, fun _ h => absurd h List.not_mem_nil⟩⟩⟩⟩⟩⟩⟩⟩⟩⟩⟩⟩⟩⟩⟩⟩
theorem lw_p48 : lw_okq (⟨"ManyNamesModel", "given", "(I)I"⟩, 44) := ⟨⟨by decide +kernel, by decide +kernel⟩, List.mem_of_getElem? (i := 763) (by decide +kernel), List.mem_of_getElem? (i := 968) (by decide +kernel), List.mem_of_getElem? (i := 969) (by decide +kernel)⟩
theorem lw_p49 : lw_okq (⟨"ManyNamesModel", "next", "()V"⟩, 44) := ⟨⟨by decide +kernel, by decide +kernel⟩, List.mem_of_getElem? (i := 763) (by decide +kernel), List.mem_of_getElem? (i := 997) (by decide +kernel), List.mem_of_getElem? (i := 998) (by decide +kernel)⟩
theorem lw_p50 : lw_okq (⟨"ManyNamesModel", "look", "(I)I"⟩, 44) := ⟨⟨by decide +kernel, by decide +kernel⟩, List.mem_of_getElem? (i := 763) (by decide +kernel), List.mem_of_getElem? (i := 1001) (by decide +kernel), List.mem_of_getElem? (i := 1002) (by decide +kernel)⟩
theorem lw_p51 : lw_okq (⟨"ManyNamesModel", "nameNow", "()I"⟩, 44) := ⟨⟨by decide +kernel, by decide +kernel⟩, List.mem_of_getElem? (i := 763) (by decide +kernel), List.mem_of_getElem? (i := 1007) (by decide +kernel), List.mem_of_getElem? (i := 1008) (by decide +kernel)⟩
theorem lw_p52 : lw_okq (⟨"ManyNamesModel", "is", "(IIIII)Z"⟩, 44) := ⟨⟨by decide +kernel, by decide +kernel⟩, List.mem_of_getElem? (i := 763) (by decide +kernel), List.mem_of_getElem? (i := 1011) (by decide +kernel), List.mem_of_getElem? (i := 1012) (by decide +kernel)⟩
theorem lw_p53 : lw_okq (⟨"ManyNamesModel", "wants", "(ZI)V"⟩, 44) := ⟨⟨by decide +kernel, by decide +kernel⟩, List.mem_of_getElem? (i := 763) (by decide +kernel), List.mem_of_getElem? (i := 1015) (by decide +kernel), List.mem_of_getElem? (i := 1016) (by decide +kernel)⟩
theorem lw_p54 : lw_okq (⟨"ManyNamesModel", "readLine", "()V"⟩, 44) := ⟨⟨by decide +kernel, by decide +kernel⟩, List.mem_of_getElem? (i := 763) (by decide +kernel), List.mem_of_getElem? (i := 1021) (by decide +kernel), List.mem_of_getElem? (i := 1022) (by decide +kernel)⟩
theorem lw_p55 : lw_okq (⟨"ManyNamesModel", "trustOf", "(I)I"⟩, 44) := ⟨⟨by decide +kernel, by decide +kernel⟩, List.mem_of_getElem? (i := 763) (by decide +kernel), List.mem_of_getElem? (i := 1044) (by decide +kernel), List.mem_of_getElem? (i := 1045) (by decide +kernel)⟩
theorem lw_p56 : lw_okq (⟨"ManyNamesModel", "begins", "()V"⟩, 44) := ⟨⟨by decide +kernel, by decide +kernel⟩, List.mem_of_getElem? (i := 763) (by decide +kernel), List.mem_of_getElem? (i := 1048) (by decide +kernel), List.mem_of_getElem? (i := 1049) (by decide +kernel)⟩
theorem lw_p57 : lw_okq (⟨"ManyNamesModel", "flows", "()I"⟩, 44) := ⟨⟨by decide +kernel, by decide +kernel⟩, List.mem_of_getElem? (i := 763) (by decide +kernel), List.mem_of_getElem? (i := 1053) (by decide +kernel), List.mem_of_getElem? (i := 1054) (by decide +kernel)⟩
theorem lw_p58 : lw_okq (⟨"ManyNamesModel", "reaches", "()Z"⟩, 44) := ⟨⟨by decide +kernel, by decide +kernel⟩, List.mem_of_getElem? (i := 763) (by decide +kernel), List.mem_of_getElem? (i := 1057) (by decide +kernel), List.mem_of_getElem? (i := 1058) (by decide +kernel)⟩
theorem lw_p59 : lw_okq (⟨"ManyNamesModel", "areNames", "(I)Z"⟩, 44) := ⟨⟨by decide +kernel, by decide +kernel⟩, List.mem_of_getElem? (i := 763) (by decide +kernel), List.mem_of_getElem? (i := 1065) (by decide +kernel), List.mem_of_getElem? (i := 1066) (by decide +kernel)⟩
theorem lw_p60 : lw_okq (⟨"ManyNamesModel", "isPlain", "(I)Z"⟩, 44) := ⟨⟨by decide +kernel, by decide +kernel⟩, List.mem_of_getElem? (i := 763) (by decide +kernel), List.mem_of_getElem? (i := 1078) (by decide +kernel), List.mem_of_getElem? (i := 1079) (by decide +kernel)⟩
theorem lw_p61 : lw_okq (⟨"ManyNamesModel", "isWord", "(IIII)Z"⟩, 44) := ⟨⟨by decide +kernel, by decide +kernel⟩, List.mem_of_getElem? (i := 763) (by decide +kernel), List.mem_of_getElem? (i := 1090) (by decide +kernel), List.mem_of_getElem? (i := 1091) (by decide +kernel)⟩
theorem lw_p62 : lw_okq (⟨"ManyNamesModel", "says", "(IIII)V"⟩, 44) := ⟨⟨by decide +kernel, by decide +kernel⟩, List.mem_of_getElem? (i := 763) (by decide +kernel), List.mem_of_getElem? (i := 1096) (by decide +kernel), List.mem_of_getElem? (i := 1097) (by decide +kernel)⟩
theorem lw_p63 : lw_okq (⟨"ManyNamesModel", "counts", "(I)Z"⟩, 44) := ⟨⟨by decide +kernel, by decide +kernel⟩, List.mem_of_getElem? (i := 763) (by decide +kernel), List.mem_of_getElem? (i := 1104) (by decide +kernel), List.mem_of_getElem? (i := 1105) (by decide +kernel)⟩
def lw_privs_4 : List (MethodName × Nat) := [(⟨"ManyNamesModel", "given", "(I)I"⟩, 44), (⟨"ManyNamesModel", "next", "()V"⟩, 44), (⟨"ManyNamesModel", "look", "(I)I"⟩, 44), (⟨"ManyNamesModel", "nameNow", "()I"⟩, 44), (⟨"ManyNamesModel", "is", "(IIIII)Z"⟩, 44), (⟨"ManyNamesModel", "wants", "(ZI)V"⟩, 44), (⟨"ManyNamesModel", "readLine", "()V"⟩, 44), (⟨"ManyNamesModel", "trustOf", "(I)I"⟩, 44), (⟨"ManyNamesModel", "begins", "()V"⟩, 44), (⟨"ManyNamesModel", "flows", "()I"⟩, 44), (⟨"ManyNamesModel", "reaches", "()Z"⟩, 44), (⟨"ManyNamesModel", "areNames", "(I)Z"⟩, 44), (⟨"ManyNamesModel", "isPlain", "(I)Z"⟩, 44), (⟨"ManyNamesModel", "isWord", "(IIII)Z"⟩, 44), (⟨"ManyNamesModel", "says", "(IIII)V"⟩, 44), (⟨"ManyNamesModel", "counts", "(I)Z"⟩, 44)]
theorem lw_r4 : ∀ q ∈ lw_privs_4, lw_okq q := List.forall_mem_cons.mpr ⟨lw_p48, List.forall_mem_cons.mpr ⟨lw_p49, List.forall_mem_cons.mpr ⟨lw_p50, List.forall_mem_cons.mpr ⟨lw_p51, List.forall_mem_cons.mpr ⟨lw_p52, List.forall_mem_cons.mpr ⟨lw_p53, List.forall_mem_cons.mpr ⟨lw_p54, List.forall_mem_cons.mpr ⟨lw_p55, List.forall_mem_cons.mpr ⟨lw_p56, List.forall_mem_cons.mpr ⟨lw_p57, List.forall_mem_cons.mpr ⟨lw_p58, List.forall_mem_cons.mpr ⟨lw_p59, List.forall_mem_cons.mpr ⟨lw_p60, List.forall_mem_cons.mpr ⟨lw_p61, List.forall_mem_cons.mpr ⟨lw_p62, List.forall_mem_cons.mpr ⟨lw_p63, fun _ h => absurd h List.not_mem_nil⟩⟩⟩⟩⟩⟩⟩⟩⟩⟩⟩⟩⟩⟩⟩⟩
theorem lw_p64 : lw_okq (⟨"ManyNamesModel", "isFirst", "(I)Z"⟩, 44) := ⟨⟨by decide +kernel, by decide +kernel⟩, List.mem_of_getElem? (i := 763) (by decide +kernel), List.mem_of_getElem? (i := 1108) (by decide +kernel), List.mem_of_getElem? (i := 1109) (by decide +kernel)⟩
theorem lw_p65 : lw_okq (⟨"ManyNamesModel", "sayersOf", "(I)I"⟩, 44) := ⟨⟨by decide +kernel, by decide +kernel⟩, List.mem_of_getElem? (i := 763) (by decide +kernel), List.mem_of_getElem? (i := 1116) (by decide +kernel), List.mem_of_getElem? (i := 1117) (by decide +kernel)⟩
theorem lw_p66 : lw_okq (⟨"ManyNamesModel", "wordBy", "(II)I"⟩, 44) := ⟨⟨by decide +kernel, by decide +kernel⟩, List.mem_of_getElem? (i := 763) (by decide +kernel), List.mem_of_getElem? (i := 1120) (by decide +kernel), List.mem_of_getElem? (i := 1121) (by decide +kernel)⟩
theorem lw_p67 : lw_okq (⟨"ManyNamesModel", "weightOf", "(II)I"⟩, 44) := ⟨⟨by decide +kernel, by decide +kernel⟩, List.mem_of_getElem? (i := 763) (by decide +kernel), List.mem_of_getElem? (i := 1124) (by decide +kernel), List.mem_of_getElem? (i := 1125) (by decide +kernel)⟩
theorem lw_p68 : lw_okq (⟨"ManyNamesModel", "lists", "(I)V"⟩, 44) := ⟨⟨by decide +kernel, by decide +kernel⟩, List.mem_of_getElem? (i := 763) (by decide +kernel), List.mem_of_getElem? (i := 1136) (by decide +kernel), List.mem_of_getElem? (i := 1137) (by decide +kernel)⟩
theorem lw_p69 : lw_okq (⟨"ManyNamesModel", "fraction", "(II)I"⟩, 44) := ⟨⟨by decide +kernel, by decide +kernel⟩, List.mem_of_getElem? (i := 763) (by decide +kernel), List.mem_of_getElem? (i := 1140) (by decide +kernel), List.mem_of_getElem? (i := 1141) (by decide +kernel)⟩
theorem lw_p70 : lw_okq (⟨"ManyNamesModel", "moved", "(IZ)I"⟩, 44) := ⟨⟨by decide +kernel, by decide +kernel⟩, List.mem_of_getElem? (i := 763) (by decide +kernel), List.mem_of_getElem? (i := 1151) (by decide +kernel), List.mem_of_getElem? (i := 1152) (by decide +kernel)⟩
theorem lw_p71 : lw_okq (⟨"ManyNamesModel", "ringOf", "(II)I"⟩, 44) := ⟨⟨by decide +kernel, by decide +kernel⟩, List.mem_of_getElem? (i := 763) (by decide +kernel), List.mem_of_getElem? (i := 1159) (by decide +kernel), List.mem_of_getElem? (i := 1160) (by decide +kernel)⟩
theorem lw_p72 : lw_okq (⟨"ManyNamesModel", "isBetween", "(II)Z"⟩, 44) := ⟨⟨by decide +kernel, by decide +kernel⟩, List.mem_of_getElem? (i := 763) (by decide +kernel), List.mem_of_getElem? (i := 1163) (by decide +kernel), List.mem_of_getElem? (i := 1164) (by decide +kernel)⟩
theorem lw_p73 : lw_okq (⟨"ManyNamesModel", "isGood", "(I)Z"⟩, 44) := ⟨⟨by decide +kernel, by decide +kernel⟩, List.mem_of_getElem? (i := 763) (by decide +kernel), List.mem_of_getElem? (i := 1167) (by decide +kernel), List.mem_of_getElem? (i := 1168) (by decide +kernel)⟩
theorem lw_p74 : lw_okq (⟨"ManyNamesModel", "findOdds", "(I)V"⟩, 44) := ⟨⟨by decide +kernel, by decide +kernel⟩, List.mem_of_getElem? (i := 763) (by decide +kernel), List.mem_of_getElem? (i := 1176) (by decide +kernel), List.mem_of_getElem? (i := 1177) (by decide +kernel)⟩
theorem lw_p75 : lw_okq (⟨"ManyNamesModel", "sellers", "()I"⟩, 44) := ⟨⟨by decide +kernel, by decide +kernel⟩, List.mem_of_getElem? (i := 763) (by decide +kernel), List.mem_of_getElem? (i := 1192) (by decide +kernel), List.mem_of_getElem? (i := 1193) (by decide +kernel)⟩
theorem lw_p76 : lw_okq (⟨"ManyNamesModel", "sells", "(I)Z"⟩, 44) := ⟨⟨by decide +kernel, by decide +kernel⟩, List.mem_of_getElem? (i := 763) (by decide +kernel), List.mem_of_getElem? (i := 1196) (by decide +kernel), List.mem_of_getElem? (i := 1197) (by decide +kernel)⟩
theorem lw_p77 : lw_okq (⟨"ManyNamesModel", "gainOf", "(III)I"⟩, 44) := ⟨⟨by decide +kernel, by decide +kernel⟩, List.mem_of_getElem? (i := 763) (by decide +kernel), List.mem_of_getElem? (i := 1201) (by decide +kernel), List.mem_of_getElem? (i := 1202) (by decide +kernel)⟩
theorem lw_p78 : lw_okq (⟨"ManyNamesModel", "refuses", "(IIJ)I"⟩, 44) := ⟨⟨by decide +kernel, by decide +kernel⟩, List.mem_of_getElem? (i := 763) (by decide +kernel), List.mem_of_getElem? (i := 1225) (by decide +kernel), List.mem_of_getElem? (i := 1226) (by decide +kernel)⟩
def lw_privs_5 : List (MethodName × Nat) := [(⟨"ManyNamesModel", "isFirst", "(I)Z"⟩, 44), (⟨"ManyNamesModel", "sayersOf", "(I)I"⟩, 44), (⟨"ManyNamesModel", "wordBy", "(II)I"⟩, 44), (⟨"ManyNamesModel", "weightOf", "(II)I"⟩, 44), (⟨"ManyNamesModel", "lists", "(I)V"⟩, 44), (⟨"ManyNamesModel", "fraction", "(II)I"⟩, 44), (⟨"ManyNamesModel", "moved", "(IZ)I"⟩, 44), (⟨"ManyNamesModel", "ringOf", "(II)I"⟩, 44), (⟨"ManyNamesModel", "isBetween", "(II)Z"⟩, 44), (⟨"ManyNamesModel", "isGood", "(I)Z"⟩, 44), (⟨"ManyNamesModel", "findOdds", "(I)V"⟩, 44), (⟨"ManyNamesModel", "sellers", "()I"⟩, 44), (⟨"ManyNamesModel", "sells", "(I)Z"⟩, 44), (⟨"ManyNamesModel", "gainOf", "(III)I"⟩, 44), (⟨"ManyNamesModel", "refuses", "(IIJ)I"⟩, 44)]
theorem lw_r5 : ∀ q ∈ lw_privs_5, lw_okq q := List.forall_mem_cons.mpr ⟨lw_p64, List.forall_mem_cons.mpr ⟨lw_p65, List.forall_mem_cons.mpr ⟨lw_p66, List.forall_mem_cons.mpr ⟨lw_p67, List.forall_mem_cons.mpr ⟨lw_p68, List.forall_mem_cons.mpr ⟨lw_p69, List.forall_mem_cons.mpr ⟨lw_p70, List.forall_mem_cons.mpr ⟨lw_p71, List.forall_mem_cons.mpr ⟨lw_p72, List.forall_mem_cons.mpr ⟨lw_p73, List.forall_mem_cons.mpr ⟨lw_p74, List.forall_mem_cons.mpr ⟨lw_p75, List.forall_mem_cons.mpr ⟨lw_p76, List.forall_mem_cons.mpr ⟨lw_p77, List.forall_mem_cons.mpr ⟨lw_p78, fun _ h => absurd h List.not_mem_nil⟩⟩⟩⟩⟩⟩⟩⟩⟩⟩⟩⟩⟩⟩⟩
def lw_privs : List (MethodName × Nat) := lw_privs_1 ++ (lw_privs_2 ++ (lw_privs_3 ++ (lw_privs_4 ++ (lw_privs_5))))
def lw_tbl : List Cond := k2_sels lw_privs ++ tables_1
theorem lw_privs_ok : ∀ q ∈ lw_privs, lw_okq q := by
  show ∀ q ∈ lw_privs_1 ++ (lw_privs_2 ++ (lw_privs_3 ++ (lw_privs_4 ++ (lw_privs_5)))), lw_okq q
  exact List.forall_mem_append.mpr ⟨lw_r1, List.forall_mem_append.mpr ⟨lw_r2, List.forall_mem_append.mpr ⟨lw_r3, List.forall_mem_append.mpr ⟨lw_r4, lw_r5⟩⟩⟩⟩
end
section
def RX0 : String := "ManyNames$Flow"
def TX0 : u_T := fun k => match k with
  | 0 => ("ManyNames$Flow", "rooms", "[I", true)
  | 1 => ("ManyNames$Flow", "ways", "[I", true)
  | 2 => ("ManyNames$Flow", "left", "[I", true)
  | 3 => ("ManyNames$Flow", "open", "[I", true)
  | 4 => ("ManyNames$Flow", "from", "[I", true)
  | 5 => ("ManyNames$Flow", "queue", "[I", true)
  | _ => ("ManyNames$Flow", "reached", "I", false)
def tyX0 : Nat → FieldType := fun k => match k with
  | 0 => .array .int
  | 1 => .array .int
  | 2 => .array .int
  | 3 => .array .int
  | 4 => .array .int
  | 5 => .array .int
  | _ => .int
abbrev wsX00 : List Cond := u_ws RX0 TX0 7
theorem nmX0 : ∀ a, a < 7 → ∀ b, b < 7 → a ≠ b → (TX0 a).2.1 ≠ (TX0 b).2.1 := by decide +kernel
theorem tyX0_ok : ∀ k, k < 7 → parseFieldDescriptor (TX0 k).2.2.1 = some (tyX0 k) := by decide +kernel
abbrev cX0_init : ByteArray := prog_2_method_1_code
def yX0_init : MethodName := ⟨RX0, "<init>", "()V"⟩
abbrev cX0_clear : ByteArray := prog_2_method_2_code
def yX0_clear : MethodName := ⟨RX0, "clear", "()V"⟩
abbrev cX0_give : ByteArray := prog_2_method_3_code
def yX0_give : MethodName := ⟨RX0, "give", "(II)V"⟩
abbrev cX0_join : ByteArray := prog_2_method_4_code
def yX0_join : MethodName := ⟨RX0, "join", "(III)V"⟩
abbrev cX0_widen : ByteArray := prog_2_method_5_code
def yX0_widen : MethodName := ⟨RX0, "widen", "(III)V"⟩
abbrev cX0_partCheat : ByteArray := prog_2_method_6_code
def yX0_partCheat : MethodName := ⟨RX0, "partCheat", "()V"⟩
abbrev cX0_most : ByteArray := prog_2_method_7_code
def yX0_most : MethodName := ⟨RX0, "most", "(I)I"⟩
abbrev cX0_search : ByteArray := prog_2_method_8_code
def yX0_search : MethodName := ⟨RX0, "search", "(I)I"⟩
abbrev cX0_push : ByteArray := prog_2_method_9_code
def yX0_push : MethodName := ⟨RX0, "push", "(I)I"⟩
def RX1 : String := "ManyNames$Folk"
def TX1 : u_T := fun k => match k with
  | 0 => ("ManyNames$Folk", "price", "[I", true)
  | 1 => ("ManyNames$Folk", "seed", "[Z", true)
  | 2 => ("ManyNames$Folk", "made", "[Z", true)
  | 3 => ("ManyNames$Folk", "finedTo", "[I", true)
  | 4 => ("ManyNames$Folk", "coins", "[I", true)
  | _ => ("ManyNames$Folk", "count", "I", false)
def tyX1 : Nat → FieldType := fun k => match k with
  | 0 => .array .int
  | 1 => .array .boolean
  | 2 => .array .boolean
  | 3 => .array .int
  | 4 => .array .int
  | _ => .int
abbrev wsX10 : List Cond := u_ws RX1 TX1 6
theorem nmX1 : ∀ a, a < 6 → ∀ b, b < 6 → a ≠ b → (TX1 a).2.1 ≠ (TX1 b).2.1 := by decide +kernel
theorem tyX1_ok : ∀ k, k < 6 → parseFieldDescriptor (TX1 k).2.2.1 = some (tyX1 k) := by decide +kernel
abbrev cX1_init : ByteArray := prog_3_method_1_code
def yX1_init : MethodName := ⟨RX1, "<init>", "()V"⟩
abbrev cX1_enter : ByteArray := prog_3_method_2_code
def yX1_enter : MethodName := ⟨RX1, "enter", "(I)I"⟩
def RX2 : String := "ManyNames$Sheet"
def TX2 : u_T := fun k => match k with
  | 0 => ("ManyNames$Sheet", "cells", "[I", true)
  | 1 => ("ManyNames$Sheet", "lane", "I", false)
  | _ => ("ManyNames$Sheet", "size", "I", false)
def tyX2 : Nat → FieldType := fun k => match k with
  | 0 => .array .int
  | 1 => .int
  | _ => .int
abbrev wsX20 : List Cond := u_ws RX2 TX2 3
theorem nmX2 : ∀ a, a < 3 → ∀ b, b < 3 → a ≠ b → (TX2 a).2.1 ≠ (TX2 b).2.1 := by decide +kernel
theorem tyX2_ok : ∀ k, k < 3 → parseFieldDescriptor (TX2 k).2.2.1 = some (tyX2 k) := by decide +kernel
abbrev cX2_init : ByteArray := prog_4_method_1_code
def yX2_init : MethodName := ⟨RX2, "<init>", "()V"⟩
abbrev cX2_isNothing : ByteArray := prog_4_method_2_code
def yX2_isNothing : MethodName := ⟨RX2, "isNothing", "()Z"⟩
abbrev cX2_renewRow : ByteArray := prog_4_method_3_code
def yX2_renewRow : MethodName := ⟨RX2, "renewRow", "(II)V"⟩
abbrev cX2_faultAt : ByteArray := prog_4_method_4_code
def yX2_faultAt : MethodName := ⟨RX2, "faultAt", "(I)I"⟩
abbrev cX2_put : ByteArray := prog_4_method_5_code
def yX2_put : MethodName := ⟨RX2, "put", "(II)V"⟩
abbrev cX2_wholeWords : ByteArray := prog_4_method_6_code
def yX2_wholeWords : MethodName := ⟨RX2, "wholeWords", "(III)I"⟩
abbrev cX2_faultOfReading : ByteArray := prog_4_method_7_code
def yX2_faultOfReading : MethodName := ⟨RX2, "faultOfReading", "(III)I"⟩
def RX3 : String := "ManyNames$Tape"
def TX3 : u_T := fun k => match k with
  | 0 => ("ManyNames$Tape", "bytes", "[I", true)
  | 1 => ("ManyNames$Tape", "length", "I", false)
  | 2 => ("ManyNames$Tape", "fault", "I", false)
  | 3 => ("ManyNames$Tape", "place", "I", false)
  | 4 => ("ManyNames$Tape", "start", "I", false)
  | 5 => ("ManyNames$Tape", "token", "I", false)
  | 6 => ("ManyNames$Tape", "value", "I", false)
  | _ => ("ManyNames$Tape", "told", "I", false)
def tyX3 : Nat → FieldType := fun k => match k with
  | 0 => .array .int
  | 1 => .int
  | 2 => .int
  | 3 => .int
  | 4 => .int
  | 5 => .int
  | 6 => .int
  | _ => .int
abbrev wsX30 : List Cond := u_ws RX3 TX3 8
theorem nmX3 : ∀ a, a < 8 → ∀ b, b < 8 → a ≠ b → (TX3 a).2.1 ≠ (TX3 b).2.1 := by decide +kernel
theorem tyX3_ok : ∀ k, k < 8 → parseFieldDescriptor (TX3 k).2.2.1 = some (tyX3 k) := by decide +kernel
abbrev cX3_init : ByteArray := prog_5_method_1_code
def yX3_init : MethodName := ⟨RX3, "<init>", "()V"⟩
abbrev cX3_takeEight : ByteArray := prog_5_method_2_code
def yX3_takeEight : MethodName := ⟨RX3, "takeEight", "(J)I"⟩
abbrev cX3_readLines : ByteArray := prog_5_method_3_code
def yX3_readLines : MethodName := ⟨RX3, "readLines", "([I)I"⟩
abbrev cX3_readLine : ByteArray := prog_5_method_4_code
def yX3_readLine : MethodName := ⟨RX3, "readLine", "([I)V"⟩
abbrev cX3_stands : ByteArray := prog_5_method_5_code
def yX3_stands : MethodName := ⟨RX3, "stands", "(I)Z"⟩
abbrev cX3_readToken : ByteArray := prog_5_method_6_code
def yX3_readToken : MethodName := ⟨RX3, "readToken", "()V"⟩
abbrev cX3_isLetter : ByteArray := prog_5_method_7_code
def yX3_isLetter : MethodName := ⟨RX3, "isLetter", "(I)Z"⟩
abbrev cX3_isFigure : ByteArray := prog_5_method_8_code
def yX3_isFigure : MethodName := ⟨RX3, "isFigure", "(I)Z"⟩
abbrev cX3_readRule : ByteArray := prog_5_method_9_code
def yX3_readRule : MethodName := ⟨RX3, "readRule", "()V"⟩
abbrev cX3_readNumber : ByteArray := prog_5_method_10_code
def yX3_readNumber : MethodName := ⟨RX3, "readNumber", "()V"⟩
abbrev cX3_isText : ByteArray := prog_5_method_11_code
def yX3_isText : MethodName := ⟨RX3, "isText", "(Ljava/lang/String;)Z"⟩
abbrev cX3_textOf : ByteArray := prog_5_method_12_code
def yX3_textOf : MethodName := ⟨RX3, "textOf", "(I)Ljava/lang/String;"⟩
def RX4 : String := "ManyNames$Ties"
def TX4 : u_T := fun k => match k with
  | 0 => ("ManyNames$Ties", "first", "[I", true)
  | 1 => ("ManyNames$Ties", "second", "[I", true)
  | 2 => ("ManyNames$Ties", "room", "[I", true)
  | 3 => ("ManyNames$Ties", "kind", "[I", true)
  | 4 => ("ManyNames$Ties", "since", "[I", true)
  | _ => ("ManyNames$Ties", "count", "I", false)
def tyX4 : Nat → FieldType := fun k => match k with
  | 0 => .array .int
  | 1 => .array .int
  | 2 => .array .int
  | 3 => .array .int
  | 4 => .array .int
  | _ => .int
abbrev wsX40 : List Cond := u_ws RX4 TX4 6
theorem nmX4 : ∀ a, a < 6 → ∀ b, b < 6 → a ≠ b → (TX4 a).2.1 ≠ (TX4 b).2.1 := by decide +kernel
theorem tyX4_ok : ∀ k, k < 6 → parseFieldDescriptor (TX4 k).2.2.1 = some (tyX4 k) := by decide +kernel
abbrev cX4_init : ByteArray := prog_6_method_1_code
def yX4_init : MethodName := ⟨RX4, "<init>", "()V"⟩
abbrev cX4_enter : ByteArray := prog_6_method_2_code
def yX4_enter : MethodName := ⟨RX4, "enter", "(IIIII)I"⟩
def RX5 : String := "ManyNames$Words"
def TX5 : u_T := fun k => match k with
  | 0 => ("ManyNames$Words", "sayer", "[I", true)
  | 1 => ("ManyNames$Words", "seller", "[I", true)
  | 2 => ("ManyNames$Words", "deal", "[I", true)
  | 3 => ("ManyNames$Words", "mark", "[I", true)
  | 4 => ("ManyNames$Words", "since", "[I", true)
  | 5 => ("ManyNames$Words", "bothEnds", "[I", true)
  | 6 => ("ManyNames$Words", "firstOfDeal", "[Z", true)
  | _ => ("ManyNames$Words", "count", "I", false)
def tyX5 : Nat → FieldType := fun k => match k with
  | 0 => .array .int
  | 1 => .array .int
  | 2 => .array .int
  | 3 => .array .int
  | 4 => .array .int
  | 5 => .array .int
  | 6 => .array .boolean
  | _ => .int
abbrev wsX50 : List Cond := u_ws RX5 TX5 8
theorem nmX5 : ∀ a, a < 8 → ∀ b, b < 8 → a ≠ b → (TX5 a).2.1 ≠ (TX5 b).2.1 := by decide +kernel
theorem tyX5_ok : ∀ k, k < 8 → parseFieldDescriptor (TX5 k).2.2.1 = some (tyX5 k) := by decide +kernel
abbrev cX5_init : ByteArray := prog_7_method_1_code
def yX5_init : MethodName := ⟨RX5, "<init>", "()V"⟩
abbrev cX5_enter : ByteArray := prog_7_method_2_code
def yX5_enter : MethodName := ⟨RX5, "enter", "(IIIII)I"⟩
abbrev cX5_isNewDeal : ByteArray := prog_7_method_3_code
def yX5_isNewDeal : MethodName := ⟨RX5, "isNewDeal", "(I)Z"⟩
abbrev cX5_countingOf : ByteArray := prog_7_method_4_code
def yX5_countingOf : MethodName := ⟨RX5, "countingOf", "(II)I"⟩
abbrev cX5_doesCount : ByteArray := prog_7_method_5_code
def yX5_doesCount : MethodName := ⟨RX5, "doesCount", "(I)Z"⟩
abbrev cX5_countingOnes : ByteArray := prog_7_method_6_code
def yX5_countingOnes : MethodName := ⟨RX5, "countingOnes", "()I"⟩
def RX6 : String := "ManyNames"
def TX6 : u_T := fun k => match k with
  | 0 => ("ManyNames", "folk", "LManyNames$Folk;", true)
  | 1 => ("ManyNames", "ties", "LManyNames$Ties;", true)
  | 2 => ("ManyNames", "words", "LManyNames$Words;", true)
  | 3 => ("ManyNames", "tape", "LManyNames$Tape;", true)
  | 4 => ("ManyNames", "flow", "LManyNames$Flow;", true)
  | 5 => ("ManyNames", "sheets", "[LManyNames$Sheet;", true)
  | 6 => ("ManyNames", "held", "[I", true)
  | 7 => ("ManyNames", "draft", "[I", true)
  | 8 => ("ManyNames", "weights", "[I", true)
  | 9 => ("ManyNames", "marks", "[I", true)
  | 10 => ("ManyNames", "stakes", "[I", true)
  | 11 => ("ManyNames", "today", "I", false)
  | _ => ("ManyNames", "lostFault", "I", false)
def tyX6 : Nat → FieldType := fun k => match k with
  | 0 => .object "ManyNames$Folk"
  | 1 => .object "ManyNames$Ties"
  | 2 => .object "ManyNames$Words"
  | 3 => .object "ManyNames$Tape"
  | 4 => .object "ManyNames$Flow"
  | 5 => .array (.object "ManyNames$Sheet")
  | 6 => .array .int
  | 7 => .array .int
  | 8 => .array .int
  | 9 => .array .int
  | 10 => .array .int
  | 11 => .int
  | _ => .int
abbrev wsX60 : List Cond := u_ws RX6 TX6 13
theorem nmX6 : ∀ a, a < 13 → ∀ b, b < 13 → a ≠ b → (TX6 a).2.1 ≠ (TX6 b).2.1 := by decide +kernel
theorem tyX6_ok : ∀ k, k < 13 → parseFieldDescriptor (TX6 k).2.2.1 = some (tyX6 k) := by decide +kernel
abbrev cX6_init : ByteArray := prog_1_method_1_code
def yX6_init : MethodName := ⟨RX6, "<init>", "()V"⟩
abbrev cX6_name : ByteArray := prog_1_method_2_code
def yX6_name : MethodName := ⟨RX6, "name", "(I)I"⟩
abbrev cX6_seed : ByteArray := prog_1_method_3_code
def yX6_seed : MethodName := ⟨RX6, "seed", "(IZ)I"⟩
abbrev cX6_pledge : ByteArray := prog_1_method_4_code
def yX6_pledge : MethodName := ⟨RX6, "pledge", "(II)I"⟩
abbrev cX6_tie : ByteArray := prog_1_method_5_code
def yX6_tie : MethodName := ⟨RX6, "tie", "(IIII)I"⟩
abbrev cX6_tieOf : ByteArray := prog_1_method_6_code
def yX6_tieOf : MethodName := ⟨RX6, "tieOf", "(II)I"⟩
abbrev cX6_renew : ByteArray := prog_1_method_7_code
def yX6_renew : MethodName := ⟨RX6, "renew", "(I)I"⟩
abbrev cX6_of : ByteArray := prog_1_method_8_code
def yX6_of : MethodName := ⟨RX6, "of", "(II)I"⟩
abbrev cX6_made : ByteArray := prog_1_method_9_code
def yX6_made : MethodName := ⟨RX6, "made", "(I)I"⟩
abbrev cX6_day : ByteArray := prog_1_method_10_code
def yX6_day : MethodName := ⟨RX6, "day", "(I)I"⟩
abbrev cX6_feed : ByteArray := prog_1_method_11_code
def yX6_feed : MethodName := ⟨RX6, "feed", "(J)I"⟩
abbrev cX6_end : ByteArray := prog_1_method_12_code
def yX6_end : MethodName := ⟨RX6, "end", "(I)I"⟩
abbrev cX6_rules : ByteArray := prog_1_method_13_code
def yX6_rules : MethodName := ⟨RX6, "rules", "()I"⟩
abbrev cX6_fault : ByteArray := prog_1_method_14_code
def yX6_fault : MethodName := ⟨RX6, "fault", "()I"⟩
abbrev cX6_rule : ByteArray := prog_1_method_15_code
def yX6_rule : MethodName := ⟨RX6, "rule", "(I)I"⟩
abbrev cX6_trust : ByteArray := prog_1_method_16_code
def yX6_trust : MethodName := ⟨RX6, "trust", "(I)I"⟩
abbrev cX6_heap : ByteArray := prog_1_method_17_code
def yX6_heap : MethodName := ⟨RX6, "heap", "(I)I"⟩
abbrev cX6_cut : ByteArray := prog_1_method_18_code
def yX6_cut : MethodName := ⟨RX6, "cut", "(II)I"⟩
abbrev cX6_low : ByteArray := prog_1_method_19_code
def yX6_low : MethodName := ⟨RX6, "low", "(I)I"⟩
abbrev cX6_twins : ByteArray := prog_1_method_20_code
def yX6_twins : MethodName := ⟨RX6, "twins", "(I)I"⟩
abbrev cX6_word : ByteArray := prog_1_method_21_code
def yX6_word : MethodName := ⟨RX6, "word", "(IIII)I"⟩
abbrev cX6_wordOf : ByteArray := prog_1_method_22_code
def yX6_wordOf : MethodName := ⟨RX6, "wordOf", "(II)I"⟩
abbrev cX6_weight : ByteArray := prog_1_method_23_code
def yX6_weight : MethodName := ⟨RX6, "weight", "(II)I"⟩
abbrev cX6_sayers : ByteArray := prog_1_method_24_code
def yX6_sayers : MethodName := ⟨RX6, "sayers", "(I)I"⟩
abbrev cX6_mark : ByteArray := prog_1_method_25_code
def yX6_mark : MethodName := ⟨RX6, "mark", "(II)I"⟩
abbrev cX6_span : ByteArray := prog_1_method_26_code
def yX6_span : MethodName := ⟨RX6, "span", "(III)I"⟩
abbrev cX6_ring : ByteArray := prog_1_method_27_code
def yX6_ring : MethodName := ⟨RX6, "ring", "(II)I"⟩
abbrev cX6_odds : ByteArray := prog_1_method_28_code
def yX6_odds : MethodName := ⟨RX6, "odds", "(II)J"⟩
abbrev cX6_oddest : ByteArray := prog_1_method_29_code
def yX6_oddest : MethodName := ⟨RX6, "oddest", "(I)J"⟩
abbrev cX6_gain : ByteArray := prog_1_method_30_code
def yX6_gain : MethodName := ⟨RX6, "gain", "(III)I"⟩
abbrev cX6_best : ByteArray := prog_1_method_31_code
def yX6_best : MethodName := ⟨RX6, "best", "(III)I"⟩
abbrev cX6_sheet : ByteArray := prog_1_method_32_code
def yX6_sheet : MethodName := ⟨RX6, "sheet", "(III)I"⟩
abbrev cX6_lay : ByteArray := prog_1_method_33_code
def yX6_lay : MethodName := ⟨RX6, "lay", "(III)I"⟩
abbrev cX6_read : ByteArray := prog_1_method_34_code
def yX6_read : MethodName := ⟨RX6, "read", "(IIII)I"⟩
abbrev cX6_lost : ByteArray := prog_1_method_35_code
def yX6_lost : MethodName := ⟨RX6, "lost", "()I"⟩
abbrev cX6_count : ByteArray := prog_1_method_36_code
def yX6_count : MethodName := ⟨RX6, "count", "(I)I"⟩
abbrev cX6_within : ByteArray := prog_1_method_37_code
def yX6_within : MethodName := ⟨RX6, "within", "(III)Z"⟩
abbrev cX6_hasBit : ByteArray := prog_1_method_38_code
def yX6_hasBit : MethodName := ⟨RX6, "hasBit", "(II)Z"⟩
abbrev cX6_oneIf : ByteArray := prog_1_method_39_code
def yX6_oneIf : MethodName := ⟨RX6, "oneIf", "(Z)I"⟩
abbrev cX6_isName : ByteArray := prog_1_method_40_code
def yX6_isName : MethodName := ⟨RX6, "isName", "(I)Z"⟩
abbrev cX6_arePair : ByteArray := prog_1_method_41_code
def yX6_arePair : MethodName := ⟨RX6, "arePair", "(II)Z"⟩
abbrev cX6_isHeap : ByteArray := prog_1_method_42_code
def yX6_isHeap : MethodName := ⟨RX6, "isHeap", "(I)Z"⟩
abbrev cX6_isTie : ByteArray := prog_1_method_43_code
def yX6_isTie : MethodName := ⟨RX6, "isTie", "(I)Z"⟩
abbrev cX6_isWord : ByteArray := prog_1_method_44_code
def yX6_isWord : MethodName := ⟨RX6, "isWord", "(I)Z"⟩
abbrev cX6_isSheet : ByteArray := prog_1_method_45_code
def yX6_isSheet : MethodName := ⟨RX6, "isSheet", "(I)Z"⟩
abbrev cX6_isLane : ByteArray := prog_1_method_46_code
def yX6_isLane : MethodName := ⟨RX6, "isLane", "(I)Z"⟩
abbrev cX6_isOffer : ByteArray := prog_1_method_47_code
def yX6_isOffer : MethodName := ⟨RX6, "isOffer", "(II)Z"⟩
abbrev cX6_isFined : ByteArray := prog_1_method_48_code
def yX6_isFined : MethodName := ⟨RX6, "isFined", "(I)Z"⟩
abbrev cX6_isPlain : ByteArray := prog_1_method_49_code
def yX6_isPlain : MethodName := ⟨RX6, "isPlain", "(I)Z"⟩
abbrev cX6_countTrue : ByteArray := prog_1_method_50_code
def yX6_countTrue : MethodName := ⟨RX6, "countTrue", "([Z)I"⟩
abbrev cX6_countFined : ByteArray := prog_1_method_51_code
def yX6_countFined : MethodName := ⟨RX6, "countFined", "()I"⟩
abbrev cX6_standingFor : ByteArray := prog_1_method_52_code
def yX6_standingFor : MethodName := ⟨RX6, "standingFor", "(I)I"⟩
abbrev cX6_pledgeRoom : ByteArray := prog_1_method_53_code
def yX6_pledgeRoom : MethodName := ⟨RX6, "pledgeRoom", "(I)I"⟩
abbrev cX6_givenTo : ByteArray := prog_1_method_54_code
def yX6_givenTo : MethodName := ⟨RX6, "givenTo", "(I)I"⟩
abbrev cX6_faded : ByteArray := prog_1_method_55_code
def yX6_faded : MethodName := ⟨RX6, "faded", "(III)I"⟩
abbrev cX6_hasMadeEnd : ByteArray := prog_1_method_56_code
def yX6_hasMadeEnd : MethodName := ⟨RX6, "hasMadeEnd", "(I)Z"⟩
abbrev cX6_roomOf : ByteArray := prog_1_method_57_code
def yX6_roomOf : MethodName := ⟨RX6, "roomOf", "(I)I"⟩
abbrev cX6_openTies : ByteArray := prog_1_method_58_code
def yX6_openTies : MethodName := ⟨RX6, "openTies", "(I)I"⟩
abbrev cX6_layFlow : ByteArray := prog_1_method_59_code
def yX6_layFlow : MethodName := ⟨RX6, "layFlow", "()V"⟩
abbrev cX6_tiesOutOf : ByteArray := prog_1_method_60_code
def yX6_tiesOutOf : MethodName := ⟨RX6, "tiesOutOf", "(I)I"⟩
abbrev cX6_givenBeyond : ByteArray := prog_1_method_61_code
def yX6_givenBeyond : MethodName := ⟨RX6, "givenBeyond", "(I)I"⟩
abbrev cX6_fillTrusts : ByteArray := prog_1_method_62_code
def yX6_fillTrusts : MethodName := ⟨RX6, "fillTrusts", "()V"⟩
abbrev cX6_refusalOf : ByteArray := prog_1_method_63_code
def yX6_refusalOf : MethodName := ⟨RX6, "refusalOf", "(IIIII)I"⟩
abbrev cX6_sayersOf : ByteArray := prog_1_method_64_code
def yX6_sayersOf : MethodName := ⟨RX6, "sayersOf", "(I)I"⟩
abbrev cX6_weighSayers : ByteArray := prog_1_method_65_code
def yX6_weighSayers : MethodName := ⟨RX6, "weighSayers", "(I)I"⟩
abbrev cX6_summedMarks : ByteArray := prog_1_method_66_code
def yX6_summedMarks : MethodName := ⟨RX6, "summedMarks", "()I"⟩
abbrev cX6_greatestStakes : ByteArray := prog_1_method_67_code
def yX6_greatestStakes : MethodName := ⟨RX6, "greatestStakes", "(IZ)I"⟩
abbrev cX6_inLowest : ByteArray := prog_1_method_68_code
def yX6_inLowest : MethodName := ⟨RX6, "inLowest", "(JJZ)J"⟩
abbrev cX6_commonPart : ByteArray := prog_1_method_69_code
def yX6_commonPart : MethodName := ⟨RX6, "commonPart", "(JJ)J"⟩
abbrev cX6_choose : ByteArray := prog_1_method_70_code
def yX6_choose : MethodName := ⟨RX6, "choose", "(II)J"⟩
abbrev cX6_wordsWithin : ByteArray := prog_1_method_71_code
def yX6_wordsWithin : MethodName := ⟨RX6, "wordsWithin", "(IZ)I"⟩
abbrev cX6_waysOf : ByteArray := prog_1_method_72_code
def yX6_waysOf : MethodName := ⟨RX6, "waysOf", "(II)J"⟩
abbrev cX6_boughtRoom : ByteArray := prog_1_method_73_code
def yX6_boughtRoom : MethodName := ⟨RX6, "boughtRoom", "(I)I"⟩
abbrev cX6_sellingNames : ByteArray := prog_1_method_74_code
def yX6_sellingNames : MethodName := ⟨RX6, "sellingNames", "()I"⟩
abbrev cX6_gainBy : ByteArray := prog_1_method_75_code
def yX6_gainBy : MethodName := ⟨RX6, "gainBy", "(III)I"⟩
def RX7 : String := "ManyNamesModel"
def TX7 : u_T := fun k => match k with
  | 0 => ("ManyNamesModel", "names", "I", false)
  | 1 => ("ManyNamesModel", "price", "[I", true)
  | 2 => ("ManyNamesModel", "isSeed", "[Z", true)
  | 3 => ("ManyNamesModel", "isMade", "[Z", true)
  | 4 => ("ManyNamesModel", "finedTo", "[I", true)
  | 5 => ("ManyNamesModel", "coins", "[I", true)
  | 6 => ("ManyNamesModel", "ties", "I", false)
  | 7 => ("ManyNamesModel", "one", "[I", true)
  | 8 => ("ManyNamesModel", "two", "[I", true)
  | 9 => ("ManyNamesModel", "told", "[I", true)
  | 10 => ("ManyNamesModel", "kind", "[I", true)
  | 11 => ("ManyNamesModel", "since", "[I", true)
  | 12 => ("ManyNamesModel", "today", "I", false)
  | 13 => ("ManyNamesModel", "rules", "[I", true)
  | 14 => ("ManyNamesModel", "draft", "[I", true)
  | 15 => ("ManyNamesModel", "isTold", "[Z", true)
  | 16 => ("ManyNamesModel", "tape", "[I", true)
  | 17 => ("ManyNamesModel", "taped", "I", false)
  | 18 => ("ManyNamesModel", "pos", "I", false)
  | 19 => ("ManyNamesModel", "from", "I", false)
  | 20 => ("ManyNamesModel", "sort", "I", false)
  | 21 => ("ManyNamesModel", "value", "I", false)
  | 22 => ("ManyNamesModel", "fault", "I", false)
  | 23 => ("ManyNamesModel", "wrongAt", "I", false)
  | 24 => ("ManyNamesModel", "left", "[I", true)
  | 25 => ("ManyNamesModel", "by", "[I", true)
  | 26 => ("ManyNamesModel", "row", "[I", true)
  | 27 => ("ManyNamesModel", "words", "I", false)
  | 28 => ("ManyNamesModel", "who", "[I", true)
  | 29 => ("ManyNamesModel", "seller", "[I", true)
  | 30 => ("ManyNamesModel", "deal", "[I", true)
  | 31 => ("ManyNamesModel", "marked", "[I", true)
  | 32 => ("ManyNamesModel", "saidOn", "[I", true)
  | 33 => ("ManyNamesModel", "listed", "I", false)
  | 34 => ("ManyNamesModel", "weights", "[I", true)
  | 35 => ("ManyNamesModel", "marks", "[I", true)
  | 36 => ("ManyNamesModel", "allWeights", "I", false)
  | 37 => ("ManyNamesModel", "allMarks", "I", false)
  | 38 => ("ManyNamesModel", "oddsUp", "J", false)
  | 39 => ("ManyNamesModel", "oddsDown", "J", false)
  | 40 => ("ManyNamesModel", "lanes", "[I", true)
  | 41 => ("ManyNamesModel", "sizes", "[I", true)
  | 42 => ("ManyNamesModel", "cells", "[I", true)
  | _ => ("ManyNamesModel", "lost", "I", false)
def tyX7 : Nat → FieldType := fun k => match k with
  | 0 => .int
  | 1 => .array .int
  | 2 => .array .boolean
  | 3 => .array .boolean
  | 4 => .array .int
  | 5 => .array .int
  | 6 => .int
  | 7 => .array .int
  | 8 => .array .int
  | 9 => .array .int
  | 10 => .array .int
  | 11 => .array .int
  | 12 => .int
  | 13 => .array .int
  | 14 => .array .int
  | 15 => .array .boolean
  | 16 => .array .int
  | 17 => .int
  | 18 => .int
  | 19 => .int
  | 20 => .int
  | 21 => .int
  | 22 => .int
  | 23 => .int
  | 24 => .array .int
  | 25 => .array .int
  | 26 => .array .int
  | 27 => .int
  | 28 => .array .int
  | 29 => .array .int
  | 30 => .array .int
  | 31 => .array .int
  | 32 => .array .int
  | 33 => .int
  | 34 => .array .int
  | 35 => .array .int
  | 36 => .int
  | 37 => .int
  | 38 => .long
  | 39 => .long
  | 40 => .array .int
  | 41 => .array .int
  | 42 => .array .int
  | _ => .int
abbrev wsX70 : List Cond := u_ws RX7 TX7 44
theorem nmX7 : ∀ a, a < 44 → ∀ b, b < 44 → a ≠ b → (TX7 a).2.1 ≠ (TX7 b).2.1 := by decide +kernel
theorem tyX7_ok : ∀ k, k < 44 → parseFieldDescriptor (TX7 k).2.2.1 = some (tyX7 k) := by decide +kernel
abbrev cX7_init : ByteArray := prog_9_method_1_code
def yX7_init : MethodName := ⟨RX7, "<init>", "()V"⟩
abbrev cX7_in : ByteArray := prog_9_method_3_code
def yX7_in : MethodName := ⟨RX7, "in", "(JJJ)Z"⟩
abbrev cX7_bits : ByteArray := prog_9_method_4_code
def yX7_bits : MethodName := ⟨RX7, "bits", "(I)I"⟩
abbrev cX7_common : ByteArray := prog_9_method_5_code
def yX7_common : MethodName := ⟨RX7, "common", "(JJ)J"⟩
abbrev cX7_isName : ByteArray := prog_9_method_6_code
def yX7_isName : MethodName := ⟨RX7, "isName", "(I)Z"⟩
abbrev cX7_isFined : ByteArray := prog_9_method_7_code
def yX7_isFined : MethodName := ⟨RX7, "isFined", "(I)Z"⟩
abbrev cX7_name : ByteArray := prog_9_method_8_code
def yX7_name : MethodName := ⟨RX7, "name", "(I)I"⟩
abbrev cX7_seed : ByteArray := prog_9_method_9_code
def yX7_seed : MethodName := ⟨RX7, "seed", "(IZ)I"⟩
abbrev cX7_pledged : ByteArray := prog_9_method_10_code
def yX7_pledged : MethodName := ⟨RX7, "pledged", "(I)I"⟩
abbrev cX7_pledge : ByteArray := prog_9_method_11_code
def yX7_pledge : MethodName := ⟨RX7, "pledge", "(II)I"⟩
abbrev cX7_tie : ByteArray := prog_9_method_12_code
def yX7_tie : MethodName := ⟨RX7, "tie", "(IIII)I"⟩
abbrev cX7_faded : ByteArray := prog_9_method_13_code
def yX7_faded : MethodName := ⟨RX7, "faded", "(III)I"⟩
abbrev cX7_roomOf : ByteArray := prog_9_method_14_code
def yX7_roomOf : MethodName := ⟨RX7, "roomOf", "(I)I"⟩
abbrev cX7_isTie : ByteArray := prog_9_method_15_code
def yX7_isTie : MethodName := ⟨RX7, "isTie", "(I)Z"⟩
abbrev cX7_tieOf : ByteArray := prog_9_method_16_code
def yX7_tieOf : MethodName := ⟨RX7, "tieOf", "(II)I"⟩
abbrev cX7_renew : ByteArray := prog_9_method_17_code
def yX7_renew : MethodName := ⟨RX7, "renew", "(I)I"⟩
abbrev cX7_given : ByteArray := prog_9_method_18_code
def yX7_given : MethodName := ⟨RX7, "given", "(I)I"⟩
abbrev cX7_of : ByteArray := prog_9_method_19_code
def yX7_of : MethodName := ⟨RX7, "of", "(II)I"⟩
abbrev cX7_made : ByteArray := prog_9_method_20_code
def yX7_made : MethodName := ⟨RX7, "made", "(I)I"⟩
abbrev cX7_day : ByteArray := prog_9_method_21_code
def yX7_day : MethodName := ⟨RX7, "day", "(I)I"⟩
abbrev cX7_firstRules : ByteArray := prog_9_method_22_code
def yX7_firstRules : MethodName := ⟨RX7, "firstRules", "()V"⟩
abbrev cX7_keepRules : ByteArray := prog_9_method_23_code
def yX7_keepRules : MethodName := ⟨RX7, "keepRules", "()V"⟩
abbrev cX7_feed : ByteArray := prog_9_method_24_code
def yX7_feed : MethodName := ⟨RX7, "feed", "(J)I"⟩
abbrev cX7_end : ByteArray := prog_9_method_25_code
def yX7_end : MethodName := ⟨RX7, "end", "(I)I"⟩
abbrev cX7_wants : ByteArray := prog_9_method_26_code
def yX7_wants : MethodName := ⟨RX7, "wants", "(ZI)V"⟩
abbrev cX7_look : ByteArray := prog_9_method_27_code
def yX7_look : MethodName := ⟨RX7, "look", "(I)I"⟩
abbrev cX7_is : ByteArray := prog_9_method_28_code
def yX7_is : MethodName := ⟨RX7, "is", "(IIIII)Z"⟩
abbrev cX7_nameNow : ByteArray := prog_9_method_29_code
def yX7_nameNow : MethodName := ⟨RX7, "nameNow", "()I"⟩
abbrev cX7_next : ByteArray := prog_9_method_30_code
def yX7_next : MethodName := ⟨RX7, "next", "()V"⟩
abbrev cX7_least : ByteArray := prog_9_method_31_code
def yX7_least : MethodName := ⟨RX7, "least", "(I)I"⟩
abbrev cX7_most : ByteArray := prog_9_method_32_code
def yX7_most : MethodName := ⟨RX7, "most", "(I)I"⟩
abbrev cX7_readLine : ByteArray := prog_9_method_33_code
def yX7_readLine : MethodName := ⟨RX7, "readLine", "()V"⟩
abbrev cX7_rules : ByteArray := prog_9_method_34_code
def yX7_rules : MethodName := ⟨RX7, "rules", "()I"⟩
abbrev cX7_fault : ByteArray := prog_9_method_35_code
def yX7_fault : MethodName := ⟨RX7, "fault", "()I"⟩
abbrev cX7_rule : ByteArray := prog_9_method_36_code
def yX7_rule : MethodName := ⟨RX7, "rule", "(I)I"⟩
abbrev cX7_begins : ByteArray := prog_9_method_37_code
def yX7_begins : MethodName := ⟨RX7, "begins", "()V"⟩
abbrev cX7_reaches : ByteArray := prog_9_method_38_code
def yX7_reaches : MethodName := ⟨RX7, "reaches", "()Z"⟩
abbrev cX7_flows : ByteArray := prog_9_method_39_code
def yX7_flows : MethodName := ⟨RX7, "flows", "()I"⟩
abbrev cX7_trustOf : ByteArray := prog_9_method_40_code
def yX7_trustOf : MethodName := ⟨RX7, "trustOf", "(I)I"⟩
abbrev cX7_areNames : ByteArray := prog_9_method_41_code
def yX7_areNames : MethodName := ⟨RX7, "areNames", "(I)Z"⟩
abbrev cX7_trust : ByteArray := prog_9_method_42_code
def yX7_trust : MethodName := ⟨RX7, "trust", "(I)I"⟩
abbrev cX7_heap : ByteArray := prog_9_method_43_code
def yX7_heap : MethodName := ⟨RX7, "heap", "(I)I"⟩
abbrev cX7_cut : ByteArray := prog_9_method_44_code
def yX7_cut : MethodName := ⟨RX7, "cut", "(II)I"⟩
abbrev cX7_isPlain : ByteArray := prog_9_method_45_code
def yX7_isPlain : MethodName := ⟨RX7, "isPlain", "(I)Z"⟩
abbrev cX7_low : ByteArray := prog_9_method_46_code
def yX7_low : MethodName := ⟨RX7, "low", "(I)I"⟩
abbrev cX7_twins : ByteArray := prog_9_method_47_code
def yX7_twins : MethodName := ⟨RX7, "twins", "(I)I"⟩
abbrev cX7_isWord : ByteArray := prog_9_method_48_code
def yX7_isWord : MethodName := ⟨RX7, "isWord", "(IIII)Z"⟩
abbrev cX7_says : ByteArray := prog_9_method_49_code
def yX7_says : MethodName := ⟨RX7, "says", "(IIII)V"⟩
abbrev cX7_word : ByteArray := prog_9_method_50_code
def yX7_word : MethodName := ⟨RX7, "word", "(IIII)I"⟩
abbrev cX7_isFirst : ByteArray := prog_9_method_51_code
def yX7_isFirst : MethodName := ⟨RX7, "isFirst", "(I)Z"⟩
abbrev cX7_counts : ByteArray := prog_9_method_52_code
def yX7_counts : MethodName := ⟨RX7, "counts", "(I)Z"⟩
abbrev cX7_wordOf : ByteArray := prog_9_method_53_code
def yX7_wordOf : MethodName := ⟨RX7, "wordOf", "(II)I"⟩
abbrev cX7_wordBy : ByteArray := prog_9_method_54_code
def yX7_wordBy : MethodName := ⟨RX7, "wordBy", "(II)I"⟩
abbrev cX7_sayersOf : ByteArray := prog_9_method_55_code
def yX7_sayersOf : MethodName := ⟨RX7, "sayersOf", "(I)I"⟩
abbrev cX7_weightOf : ByteArray := prog_9_method_56_code
def yX7_weightOf : MethodName := ⟨RX7, "weightOf", "(II)I"⟩
abbrev cX7_weight : ByteArray := prog_9_method_57_code
def yX7_weight : MethodName := ⟨RX7, "weight", "(II)I"⟩
abbrev cX7_sayers : ByteArray := prog_9_method_58_code
def yX7_sayers : MethodName := ⟨RX7, "sayers", "(I)I"⟩
abbrev cX7_lists : ByteArray := prog_9_method_59_code
def yX7_lists : MethodName := ⟨RX7, "lists", "(I)V"⟩
abbrev cX7_fraction : ByteArray := prog_9_method_60_code
def yX7_fraction : MethodName := ⟨RX7, "fraction", "(II)I"⟩
abbrev cX7_mark : ByteArray := prog_9_method_61_code
def yX7_mark : MethodName := ⟨RX7, "mark", "(II)I"⟩
abbrev cX7_moved : ByteArray := prog_9_method_62_code
def yX7_moved : MethodName := ⟨RX7, "moved", "(IZ)I"⟩
abbrev cX7_span : ByteArray := prog_9_method_63_code
def yX7_span : MethodName := ⟨RX7, "span", "(III)I"⟩
abbrev cX7_isGood : ByteArray := prog_9_method_64_code
def yX7_isGood : MethodName := ⟨RX7, "isGood", "(I)Z"⟩
abbrev cX7_isBetween : ByteArray := prog_9_method_65_code
def yX7_isBetween : MethodName := ⟨RX7, "isBetween", "(II)Z"⟩
abbrev cX7_ringOf : ByteArray := prog_9_method_66_code
def yX7_ringOf : MethodName := ⟨RX7, "ringOf", "(II)I"⟩
abbrev cX7_ring : ByteArray := prog_9_method_67_code
def yX7_ring : MethodName := ⟨RX7, "ring", "(II)I"⟩
abbrev cX7_ways : ByteArray := prog_9_method_68_code
def yX7_ways : MethodName := ⟨RX7, "ways", "(II)J"⟩
abbrev cX7_findOdds : ByteArray := prog_9_method_69_code
def yX7_findOdds : MethodName := ⟨RX7, "findOdds", "(I)V"⟩
abbrev cX7_odds : ByteArray := prog_9_method_70_code
def yX7_odds : MethodName := ⟨RX7, "odds", "(II)J"⟩
abbrev cX7_oddest : ByteArray := prog_9_method_71_code
def yX7_oddest : MethodName := ⟨RX7, "oddest", "(I)J"⟩
abbrev cX7_sells : ByteArray := prog_9_method_72_code
def yX7_sells : MethodName := ⟨RX7, "sells", "(I)Z"⟩
abbrev cX7_gainOf : ByteArray := prog_9_method_73_code
def yX7_gainOf : MethodName := ⟨RX7, "gainOf", "(III)I"⟩
abbrev cX7_sellers : ByteArray := prog_9_method_74_code
def yX7_sellers : MethodName := ⟨RX7, "sellers", "()I"⟩
abbrev cX7_gain : ByteArray := prog_9_method_75_code
def yX7_gain : MethodName := ⟨RX7, "gain", "(III)I"⟩
abbrev cX7_best : ByteArray := prog_9_method_76_code
def yX7_best : MethodName := ⟨RX7, "best", "(III)I"⟩
abbrev cX7_isSheet : ByteArray := prog_9_method_77_code
def yX7_isSheet : MethodName := ⟨RX7, "isSheet", "(II)Z"⟩
abbrev cX7_sheet : ByteArray := prog_9_method_78_code
def yX7_sheet : MethodName := ⟨RX7, "sheet", "(III)I"⟩
abbrev cX7_lay : ByteArray := prog_9_method_79_code
def yX7_lay : MethodName := ⟨RX7, "lay", "(III)I"⟩
abbrev cX7_refuses : ByteArray := prog_9_method_80_code
def yX7_refuses : MethodName := ⟨RX7, "refuses", "(IIJ)I"⟩
abbrev cX7_read : ByteArray := prog_9_method_81_code
def yX7_read : MethodName := ⟨RX7, "read", "(IIII)I"⟩
abbrev cX7_lost : ByteArray := prog_9_method_82_code
def yX7_lost : MethodName := ⟨RX7, "lost", "()I"⟩
abbrev cX7_count : ByteArray := prog_9_method_83_code
def yX7_count : MethodName := ⟨RX7, "count", "(I)I"⟩
def RJ6 : String := "java/lang/Integer"
def TJ6 : u_T := fun k => match k with
  | _ => ("", "", "", false)
def tyJ6 : Nat → FieldType := fun k => match k with
  | _ => .int
abbrev wsJ60 : List Cond := u_ws RJ6 TJ6 0
theorem nmJ6 : ∀ a, a < 0 → ∀ b, b < 0 → a ≠ b → (TJ6 a).2.1 ≠ (TJ6 b).2.1 := by decide +kernel
theorem tyJ6_ok : ∀ k, k < 0 → parseFieldDescriptor (TJ6 k).2.2.1 = some (tyJ6 k) := by decide +kernel
abbrev cJ6_bitCount_0f7a4 : ByteArray := prog_10_method_49_code
def yJ6_bitCount_0f7a4 : MethodName := ⟨RJ6, "bitCount", "(I)I"⟩
def RJ9 : String := "java/lang/Math"
def TJ9 : u_T := fun k => match k with
  | _ => ("", "", "", false)
def tyJ9 : Nat → FieldType := fun k => match k with
  | _ => .int
abbrev wsJ90 : List Cond := u_ws RJ9 TJ9 0
theorem nmJ9 : ∀ a, a < 0 → ∀ b, b < 0 → a ≠ b → (TJ9 a).2.1 ≠ (TJ9 b).2.1 := by decide +kernel
theorem tyJ9_ok : ∀ k, k < 0 → parseFieldDescriptor (TJ9 k).2.2.1 = some (tyJ9 k) := by decide +kernel
abbrev cJ9_max_7cf53 : ByteArray := prog_11_method_65_code
def yJ9_max_7cf53 : MethodName := ⟨RJ9, "max", "(II)I"⟩
abbrev cJ9_max_f86c9 : ByteArray := prog_11_method_66_code
def yJ9_max_f86c9 : MethodName := ⟨RJ9, "max", "(JJ)J"⟩
abbrev cJ9_min_7cf53 : ByteArray := prog_11_method_69_code
def yJ9_min_7cf53 : MethodName := ⟨RJ9, "min", "(II)I"⟩
def RJ0 : String := "java/lang/String"
def TJ0 : u_T := fun k => match k with
  | _ => ("", "", "", false)
def tyJ0 : Nat → FieldType := fun k => match k with
  | _ => .int
abbrev wsJ00 : List Cond := u_ws RJ0 TJ0 0
theorem nmJ0 : ∀ a, a < 0 → ∀ b, b < 0 → a ≠ b → (TJ0 a).2.1 ≠ (TJ0 b).2.1 := by decide +kernel
theorem tyJ0_ok : ∀ k, k < 0 → parseFieldDescriptor (TJ0 k).2.2.1 = some (tyJ0 k) := by decide +kernel
abbrev cJ0_length_8abf5 : ByteArray := prog_12_method_54_code
def yJ0_length_8abf5 : MethodName := ⟨RJ0, "length", "()I"⟩
abbrev cJ0_charAt_5068e : ByteArray := prog_12_method_56_code
def yJ0_charAt_5068e : MethodName := ⟨RJ0, "charAt", "(I)C"⟩
abbrev cJ0_coder_7d493 : ByteArray := prog_12_method_152_code
def yJ0_coder_7d493 : MethodName := ⟨RJ0, "coder", "()B"⟩
abbrev cJ0_isLatin1_aae02 : ByteArray := prog_12_method_154_code
def yJ0_isLatin1_aae02 : MethodName := ⟨RJ0, "isLatin1", "()Z"⟩
abbrev cJ0_checkIndex_df160 : ByteArray := prog_12_method_155_code
def yJ0_checkIndex_df160 : MethodName := ⟨RJ0, "checkIndex", "(II)V"⟩
def RJ1 : String := "java/lang/StringLatin1"
def TJ1 : u_T := fun k => match k with
  | _ => ("", "", "", false)
def tyJ1 : Nat → FieldType := fun k => match k with
  | _ => .int
abbrev wsJ10 : List Cond := u_ws RJ1 TJ1 0
theorem nmJ1 : ∀ a, a < 0 → ∀ b, b < 0 → a ≠ b → (TJ1 a).2.1 ≠ (TJ1 b).2.1 := by decide +kernel
theorem tyJ1_ok : ∀ k, k < 0 → parseFieldDescriptor (TJ1 k).2.2.1 = some (tyJ1 k) := by decide +kernel
abbrev cJ1_charAt_3b067 : ByteArray := prog_13_method_2_code
def yJ1_charAt_3b067 : MethodName := ⟨RJ1, "charAt", "([BI)C"⟩
def RJ2 : String := "java/lang/StringUTF16"
def TJ2 : u_T := fun k => match k with
  | _ => ("", "", "", false)
def tyJ2 : Nat → FieldType := fun k => match k with
  | _ => .int
abbrev wsJ20 : List Cond := u_ws RJ2 TJ2 0
theorem nmJ2 : ∀ a, a < 0 → ∀ b, b < 0 → a ≠ b → (TJ2 a).2.1 ≠ (TJ2 b).2.1 := by decide +kernel
theorem tyJ2_ok : ∀ k, k < 0 → parseFieldDescriptor (TJ2 k).2.2.1 = some (tyJ2 k) := by decide +kernel
abbrev cJ2_getChar_3b067 : ByteArray := prog_14_method_5_code
def yJ2_getChar_3b067 : MethodName := ⟨RJ2, "getChar", "([BI)C"⟩
abbrev cJ2_length_9d52b : ByteArray := prog_14_method_6_code
def yJ2_length_9d52b : MethodName := ⟨RJ2, "length", "([B)I"⟩
abbrev cJ2_charAt_3b067 : ByteArray := prog_14_method_83_code
def yJ2_charAt_3b067 : MethodName := ⟨RJ2, "charAt", "([BI)C"⟩
abbrev cJ2_checkIndex_2214a : ByteArray := prog_14_method_91_code
def yJ2_checkIndex_2214a : MethodName := ⟨RJ2, "checkIndex", "(I[B)V"⟩
def RJ10 : String := "java/lang/System"
def TJ10 : u_T := fun k => match k with
  | _ => ("", "", "", false)
def tyJ10 : Nat → FieldType := fun k => match k with
  | _ => .int
abbrev wsJ100 : List Cond := u_ws RJ10 TJ10 0
theorem nmJ10 : ∀ a, a < 0 → ∀ b, b < 0 → a ≠ b → (TJ10 a).2.1 ≠ (TJ10 b).2.1 := by decide +kernel
theorem tyJ10_ok : ∀ k, k < 0 → parseFieldDescriptor (TJ10 k).2.2.1 = some (tyJ10 k) := by decide +kernel
def RJ7 : String := "java/util/Arrays"
def TJ7 : u_T := fun k => match k with
  | _ => ("", "", "", false)
def tyJ7 : Nat → FieldType := fun k => match k with
  | _ => .int
abbrev wsJ70 : List Cond := u_ws RJ7 TJ7 0
theorem nmJ7 : ∀ a, a < 0 → ∀ b, b < 0 → a ≠ b → (TJ7 a).2.1 ≠ (TJ7 b).2.1 := by decide +kernel
theorem tyJ7_ok : ∀ k, k < 0 → parseFieldDescriptor (TJ7 k).2.2.1 = some (tyJ7 k) := by decide +kernel
abbrev cJ7_fill_53178 : ByteArray := prog_16_method_103_code
def yJ7_fill_53178 : MethodName := ⟨RJ7, "fill", "([II)V"⟩
def RJ3 : String := "jdk/internal/util/Preconditions"
def TJ3 : u_T := fun k => match k with
  | _ => ("", "", "", false)
def tyJ3 : Nat → FieldType := fun k => match k with
  | _ => .int
abbrev wsJ30 : List Cond := u_ws RJ3 TJ3 0
theorem nmJ3 : ∀ a, a < 0 → ∀ b, b < 0 → a ≠ b → (TJ3 a).2.1 ≠ (TJ3 b).2.1 := by decide +kernel
theorem tyJ3_ok : ∀ k, k < 0 → parseFieldDescriptor (TJ3 k).2.2.1 = some (tyJ3 k) := by decide +kernel
abbrev cJ3_checkIndex_8e157 : ByteArray := prog_17_method_11_code
def yJ3_checkIndex_8e157 : MethodName := ⟨RJ3, "checkIndex", "(IILjava/util/function/BiFunction;)I"⟩
def RL : String := "ManyNamesLaw"
abbrev cL_law : ByteArray := code
def yL_law : MethodName := ⟨RL, "law", "([I)Z"⟩
abbrev vwCl : List vw_C := [(RX0, TX0, 7), (RX1, TX1, 6), (RX2, TX2, 3), (RX3, TX3, 8), (RX4, TX4, 6), (RX5, TX5, 8), (RX6, TX6, 13), (RX7, TX7, 44)]
theorem inX0 : ∀ w ∈ wsX00, w ∈ lw_tbl := by decide +kernel
theorem inX1 : ∀ w ∈ wsX10, w ∈ lw_tbl := by decide +kernel
theorem inX2 : ∀ w ∈ wsX20, w ∈ lw_tbl := by decide +kernel
theorem inX3 : ∀ w ∈ wsX30, w ∈ lw_tbl := by decide +kernel
theorem inX4 : ∀ w ∈ wsX40, w ∈ lw_tbl := by decide +kernel
theorem inX5 : ∀ w ∈ wsX50, w ∈ lw_tbl := by decide +kernel
theorem inX6 : ∀ w ∈ wsX60, w ∈ lw_tbl := by decide +kernel
theorem inX7 : ∀ w ∈ wsX70, w ∈ lw_tbl := by decide +kernel
end
section
-- words of the walker: what a cell is, what the cells hold, a method, its facts
abbrev SP : Type := Nat × Nat × List Nat
abbrev HS : Type := (Nat → Nat → Int32) × (Nat → Nat → Int64)
abbrev Geo : Type := va_G × (Nat → Nat) × ClassId × ClassId × ClassId
def aw_tb : List Cond := lw_tbl.filter goodWord
abbrev MI : Type := MethodName × ByteArray × Nat × Option FieldType
theorem aw_in {w : Cond} (i : Nat) (h : lw_tbl[i]? = some w) (hg : goodWord w = true) : w ∈ aw_tb := List.mem_filter.mpr ⟨List.mem_of_getElem? h, hg⟩
abbrev WT : Type := Launch × Geo × List SP × (Nat → Nat)
def FL (own : String) (index ci j : Nat) : Prop := ∃ (C : String) (T : u_T) (N : Nat), vwCl[ci]? = some (C, T, N) ∧ j < N ∧ (Cond.fieldLink own index C (T j).2.1 (T j).2.2.1) ∈ aw_tb ∧ (∀ w ∈ u_ws C T N, w ∈ aw_tb) ∧ (T j).1 = C
def FP_ (ci j : Nat) (ty : FieldType) : Prop := ∃ (C : String) (T : u_T) (N : Nat) (tys : Nat → FieldType), vwCl[ci]? = some (C, T, N) ∧ (∀ k, k < N → parseFieldDescriptor (T k).2.2.1 = some (tys k)) ∧ (∀ a, a < N → ∀ b, b < N → a ≠ b → (T a).2.1 ≠ (T b).2.1) ∧ (T j).2.2.2 = false ∧ parseFieldDescriptor (T j).2.2.1 = some ty
def MF (mi : MI) (n : Nat) : Prop := Cond.code mi.1 mi.2.1 mi.2.2.1 mi.2.2.2 ∈ aw_tb ∧ Cond.initialized mi.1.cls ∈ aw_tb ∧ (mi.1.cls ≠ "java/lang/invoke/MethodHandle" ∧ mi.1.cls ≠ "java/lang/invoke/VarHandle" ∧ (parseMethodDescriptor mi.1.desc).map (fun d => d.parameters.length) = some n) ∧ mi.2.2.1 ≤ 17
def MFs (mi : MI) (n : Nat) : Prop := MF mi n ∧ Cond.static mi.1 ∈ aw_tb
def MFv (mi : MI) (n : Nat) : Prop := MF mi n ∧ Cond.instanceMethod mi.1 ∈ aw_tb ∧ Cond.selects mi.1.cls mi.1 mi.1 ∈ aw_tb
def ML (own : String) (index : Nat) (mi : MI) : Prop := Cond.methodLink own index mi.1 ∈ aw_tb
def MLN (own : String) (index : Nat) (mi : MI) : Prop := Cond.methodLinkNest own index mi.1 "ManyNames" ∈ lw_tbl
def CLS (ci : Nat) (C : String) : Prop := ∃ q : vw_C, vwCl[ci]? = some q ∧ q.1 = C
end
section
def layX : List SP := [(9, 0, [3, 4, 5, 6, 7, 8, 13, 14, 15, 16, 17, 0, 0]), (4, 0, [18, 19, 20, 21, 22, 0]), (7, 0, [23, 24, 25, 26, 27, 0]), (8, 0, [28, 29, 30, 31, 32, 33, 34, 0]), (6, 0, [35, 0, 0, 0, 0, 0, 0, 0]), (3, 0, [36, 37, 38, 39, 40, 41, 0]), (2, 4, [7, 8, 9, 10]), (5, 0, [42, 0, 0]), (5, 0, [43, 0, 0]), (5, 0, [44, 0, 0]), (5, 0, [45, 0, 0]), (0, 10, []), (0, 10, []), (0, 12, []), (0, 12, []), (0, 12, []), (0, 12, []), (1, 12, []), (1, 12, []), (0, 12, []), (0, 12, []), (0, 24, []), (0, 24, []), (0, 24, []), (0, 24, []), (0, 24, []), (0, 24, []), (0, 24, []), (0, 24, []), (0, 24, []), (0, 24, []), (0, 24, []), (1, 24, []), (0, 200, []), (0, 196, []), (0, 14, []), (0, 196, []), (0, 14, []), (0, 14, []), (0, 14, []), (0, 48, []), (0, 48, []), (0, 48, []), (0, 48, [])]
def layM : List SP := [(10, 0, [0, 3, 4, 5, 6, 7, 0, 8, 9, 10, 11, 12, 0, 13, 14, 15, 16, 0, 0, 0, 0, 0, 0, 0, 17, 18, 19, 0, 20, 21, 22, 23, 24, 0, 25, 26, 0, 0, 1, 1, 27, 28, 29, 0]), (0, 12, []), (1, 12, []), (1, 12, []), (0, 12, []), (0, 12, []), (0, 24, []), (0, 24, []), (0, 24, []), (0, 24, []), (0, 24, []), (0, 10, []), (0, 10, []), (1, 10, []), (0, 200, []), (0, 196, []), (0, 14, []), (0, 14, []), (0, 24, []), (0, 24, []), (0, 24, []), (0, 24, []), (0, 24, []), (0, 12, []), (0, 12, []), (0, 4, []), (0, 4, []), (0, 192, [])]
-- X cells: 0.held=11, 0.draft=12, 0.weights=13, 0.marks=14, 0.stakes=15, 1.price=16, 1.seed=17, 1.made=18, 1.finedTo=19, 1.coins=20, 2.first=21, 2.second=22, 2.room=23, 2.kind=24, 2.since=25, 3.sayer=26, 3.seller=27, 3.deal=28, 3.mark=29, 3.since=30, 3.bothEnds=31, 3.firstOfDeal=32, 4.bytes=33, 5.rooms=34, 5.ways=35, 5.left=36, 5.open=37, 5.from=38, 5.queue=39, 7.cells=40, 8.cells=41, 9.cells=42, 10.cells=43
-- M cells: price=1, isSeed=2, isMade=3, finedTo=4, coins=5, one=6, two=7, told=8, kind=9, since=10, rules=11, draft=12, isTold=13, tape=14, left=15, by=16, row=17, who=18, seller=19, deal=20, marked=21, saidOn=22, weights=23, marks=24, lanes=25, sizes=26, cells=27
abbrev wX (l : Launch) (g : Geo) (sta : Nat → Nat) : WT := (l, g, layX, sta)
abbrev wM (l : Launch) (g : Geo) (sta : Nat → Nat) : WT := (l, g, layM, sta)
theorem wnX0 : ∀ w ∈ wsX00, w ∈ aw_tb := by
  have h : ∀ w ∈ wsX00, goodWord w = true := by decide +kernel
  exact fun w hw => List.mem_filter.mpr ⟨inX0 w hw, h w hw⟩
theorem clsX0 : CLS 0 RX0 := ⟨_, rfl, rfl⟩
theorem fpX0_6 : FP_ 0 6 .int := ⟨RX0, TX0, 7, tyX0, rfl, tyX0_ok, nmX0, rfl, by decide +kernel⟩
theorem wnX1 : ∀ w ∈ wsX10, w ∈ aw_tb := by
  have h : ∀ w ∈ wsX10, goodWord w = true := by decide +kernel
  exact fun w hw => List.mem_filter.mpr ⟨inX1 w hw, h w hw⟩
theorem clsX1 : CLS 1 RX1 := ⟨_, rfl, rfl⟩
theorem fpX1_5 : FP_ 1 5 .int := ⟨RX1, TX1, 6, tyX1, rfl, tyX1_ok, nmX1, rfl, by decide +kernel⟩
theorem wnX2 : ∀ w ∈ wsX20, w ∈ aw_tb := by
  have h : ∀ w ∈ wsX20, goodWord w = true := by decide +kernel
  exact fun w hw => List.mem_filter.mpr ⟨inX2 w hw, h w hw⟩
theorem clsX2 : CLS 2 RX2 := ⟨_, rfl, rfl⟩
theorem fpX2_1 : FP_ 2 1 .int := ⟨RX2, TX2, 3, tyX2, rfl, tyX2_ok, nmX2, rfl, by decide +kernel⟩
theorem fpX2_2 : FP_ 2 2 .int := ⟨RX2, TX2, 3, tyX2, rfl, tyX2_ok, nmX2, rfl, by decide +kernel⟩
theorem wnX3 : ∀ w ∈ wsX30, w ∈ aw_tb := by
  have h : ∀ w ∈ wsX30, goodWord w = true := by decide +kernel
  exact fun w hw => List.mem_filter.mpr ⟨inX3 w hw, h w hw⟩
theorem clsX3 : CLS 3 RX3 := ⟨_, rfl, rfl⟩
theorem fpX3_1 : FP_ 3 1 .int := ⟨RX3, TX3, 8, tyX3, rfl, tyX3_ok, nmX3, rfl, by decide +kernel⟩
theorem fpX3_2 : FP_ 3 2 .int := ⟨RX3, TX3, 8, tyX3, rfl, tyX3_ok, nmX3, rfl, by decide +kernel⟩
theorem fpX3_3 : FP_ 3 3 .int := ⟨RX3, TX3, 8, tyX3, rfl, tyX3_ok, nmX3, rfl, by decide +kernel⟩
theorem fpX3_4 : FP_ 3 4 .int := ⟨RX3, TX3, 8, tyX3, rfl, tyX3_ok, nmX3, rfl, by decide +kernel⟩
theorem fpX3_5 : FP_ 3 5 .int := ⟨RX3, TX3, 8, tyX3, rfl, tyX3_ok, nmX3, rfl, by decide +kernel⟩
theorem fpX3_6 : FP_ 3 6 .int := ⟨RX3, TX3, 8, tyX3, rfl, tyX3_ok, nmX3, rfl, by decide +kernel⟩
theorem fpX3_7 : FP_ 3 7 .int := ⟨RX3, TX3, 8, tyX3, rfl, tyX3_ok, nmX3, rfl, by decide +kernel⟩
theorem wnX4 : ∀ w ∈ wsX40, w ∈ aw_tb := by
  have h : ∀ w ∈ wsX40, goodWord w = true := by decide +kernel
  exact fun w hw => List.mem_filter.mpr ⟨inX4 w hw, h w hw⟩
theorem clsX4 : CLS 4 RX4 := ⟨_, rfl, rfl⟩
theorem fpX4_5 : FP_ 4 5 .int := ⟨RX4, TX4, 6, tyX4, rfl, tyX4_ok, nmX4, rfl, by decide +kernel⟩
theorem wnX5 : ∀ w ∈ wsX50, w ∈ aw_tb := by
  have h : ∀ w ∈ wsX50, goodWord w = true := by decide +kernel
  exact fun w hw => List.mem_filter.mpr ⟨inX5 w hw, h w hw⟩
theorem clsX5 : CLS 5 RX5 := ⟨_, rfl, rfl⟩
theorem fpX5_7 : FP_ 5 7 .int := ⟨RX5, TX5, 8, tyX5, rfl, tyX5_ok, nmX5, rfl, by decide +kernel⟩
theorem wnX6 : ∀ w ∈ wsX60, w ∈ aw_tb := by
  have h : ∀ w ∈ wsX60, goodWord w = true := by decide +kernel
  exact fun w hw => List.mem_filter.mpr ⟨inX6 w hw, h w hw⟩
theorem clsX6 : CLS 6 RX6 := ⟨_, rfl, rfl⟩
theorem fpX6_11 : FP_ 6 11 .int := ⟨RX6, TX6, 13, tyX6, rfl, tyX6_ok, nmX6, rfl, by decide +kernel⟩
theorem fpX6_12 : FP_ 6 12 .int := ⟨RX6, TX6, 13, tyX6, rfl, tyX6_ok, nmX6, rfl, by decide +kernel⟩
theorem wnX7 : ∀ w ∈ wsX70, w ∈ aw_tb := by
  have h : ∀ w ∈ wsX70, goodWord w = true := by decide +kernel
  exact fun w hw => List.mem_filter.mpr ⟨inX7 w hw, h w hw⟩
theorem clsX7 : CLS 7 RX7 := ⟨_, rfl, rfl⟩
theorem fpX7_0 : FP_ 7 0 .int := ⟨RX7, TX7, 44, tyX7, rfl, tyX7_ok, nmX7, rfl, by decide +kernel⟩
theorem fpX7_6 : FP_ 7 6 .int := ⟨RX7, TX7, 44, tyX7, rfl, tyX7_ok, nmX7, rfl, by decide +kernel⟩
theorem fpX7_12 : FP_ 7 12 .int := ⟨RX7, TX7, 44, tyX7, rfl, tyX7_ok, nmX7, rfl, by decide +kernel⟩
theorem fpX7_17 : FP_ 7 17 .int := ⟨RX7, TX7, 44, tyX7, rfl, tyX7_ok, nmX7, rfl, by decide +kernel⟩
theorem fpX7_18 : FP_ 7 18 .int := ⟨RX7, TX7, 44, tyX7, rfl, tyX7_ok, nmX7, rfl, by decide +kernel⟩
theorem fpX7_19 : FP_ 7 19 .int := ⟨RX7, TX7, 44, tyX7, rfl, tyX7_ok, nmX7, rfl, by decide +kernel⟩
theorem fpX7_20 : FP_ 7 20 .int := ⟨RX7, TX7, 44, tyX7, rfl, tyX7_ok, nmX7, rfl, by decide +kernel⟩
theorem fpX7_21 : FP_ 7 21 .int := ⟨RX7, TX7, 44, tyX7, rfl, tyX7_ok, nmX7, rfl, by decide +kernel⟩
theorem fpX7_22 : FP_ 7 22 .int := ⟨RX7, TX7, 44, tyX7, rfl, tyX7_ok, nmX7, rfl, by decide +kernel⟩
theorem fpX7_23 : FP_ 7 23 .int := ⟨RX7, TX7, 44, tyX7, rfl, tyX7_ok, nmX7, rfl, by decide +kernel⟩
theorem fpX7_27 : FP_ 7 27 .int := ⟨RX7, TX7, 44, tyX7, rfl, tyX7_ok, nmX7, rfl, by decide +kernel⟩
theorem fpX7_33 : FP_ 7 33 .int := ⟨RX7, TX7, 44, tyX7, rfl, tyX7_ok, nmX7, rfl, by decide +kernel⟩
theorem fpX7_36 : FP_ 7 36 .int := ⟨RX7, TX7, 44, tyX7, rfl, tyX7_ok, nmX7, rfl, by decide +kernel⟩
theorem fpX7_37 : FP_ 7 37 .int := ⟨RX7, TX7, 44, tyX7, rfl, tyX7_ok, nmX7, rfl, by decide +kernel⟩
theorem fpX7_38 : FP_ 7 38 .long := ⟨RX7, TX7, 44, tyX7, rfl, tyX7_ok, nmX7, rfl, by decide +kernel⟩
theorem fpX7_39 : FP_ 7 39 .long := ⟨RX7, TX7, 44, tyX7, rfl, tyX7_ok, nmX7, rfl, by decide +kernel⟩
theorem fpX7_43 : FP_ 7 43 .int := ⟨RX7, TX7, 44, tyX7, rfl, tyX7_ok, nmX7, rfl, by decide +kernel⟩
abbrev mX0_init : MI := (yX0_init, cX0_init, 1, none)
abbrev mJ7_fill_53178 : MI := (yJ7_fill_53178, cJ7_fill_53178, 4, none)
abbrev mX0_clear : MI := (yX0_clear, cX0_clear, 1, none)
abbrev mX0_widen : MI := (yX0_widen, cX0_widen, 4, none)
abbrev mX0_give : MI := (yX0_give, cX0_give, 3, none)
abbrev mX0_join : MI := (yX0_join, cX0_join, 4, none)
abbrev mX0_partCheat : MI := (yX0_partCheat, cX0_partCheat, 2, none)
abbrev mX6_hasBit : MI := (yX6_hasBit, cX6_hasBit, 2, (some .boolean))
abbrev mX0_search : MI := (yX0_search, cX0_search, 7, (some .int))
abbrev mX0_push : MI := (yX0_push, cX0_push, 6, (some .int))
abbrev mX0_most : MI := (yX0_most, cX0_most, 5, (some .int))
abbrev mX1_init : MI := (yX1_init, cX1_init, 1, none)
abbrev mX1_enter : MI := (yX1_enter, cX1_enter, 2, (some .int))
abbrev mX2_init : MI := (yX2_init, cX2_init, 1, none)
abbrev mX2_isNothing : MI := (yX2_isNothing, cX2_isNothing, 1, (some .boolean))
abbrev mX2_renewRow : MI := (yX2_renewRow, cX2_renewRow, 3, none)
abbrev mX6_within : MI := (yX6_within, cX6_within, 3, (some .boolean))
abbrev mX2_faultAt : MI := (yX2_faultAt, cX2_faultAt, 2, (some .int))
abbrev mX2_put : MI := (yX2_put, cX2_put, 3, none)
abbrev mX2_wholeWords : MI := (yX2_wholeWords, cX2_wholeWords, 4, (some .int))
abbrev mX2_faultOfReading : MI := (yX2_faultOfReading, cX2_faultOfReading, 4, (some .int))
abbrev mX3_init : MI := (yX3_init, cX3_init, 1, none)
abbrev mX3_takeEight : MI := (yX3_takeEight, cX3_takeEight, 4, (some .int))
abbrev mX3_isLetter : MI := (yX3_isLetter, cX3_isLetter, 2, (some .boolean))
abbrev mX3_textOf : MI := (yX3_textOf, cX3_textOf, 1, (some (.object "java/lang/String")))
abbrev mJ0_coder_7d493 : MI := (yJ0_coder_7d493, cJ0_coder_7d493, 1, (some .byte))
abbrev mJ0_length_8abf5 : MI := (yJ0_length_8abf5, cJ0_length_8abf5, 1, (some .int))
abbrev mJ0_isLatin1_aae02 : MI := (yJ0_isLatin1_aae02, cJ0_isLatin1_aae02, 1, (some .boolean))
abbrev mJ3_checkIndex_8e157 : MI := (yJ3_checkIndex_8e157, cJ3_checkIndex_8e157, 3, (some .int))
abbrev mJ0_checkIndex_df160 : MI := (yJ0_checkIndex_df160, cJ0_checkIndex_df160, 2, none)
abbrev mJ1_charAt_3b067 : MI := (yJ1_charAt_3b067, cJ1_charAt_3b067, 2, (some .char))
abbrev mJ2_length_9d52b : MI := (yJ2_length_9d52b, cJ2_length_9d52b, 1, (some .int))
abbrev mJ2_checkIndex_2214a : MI := (yJ2_checkIndex_2214a, cJ2_checkIndex_2214a, 2, none)
abbrev mJ2_getChar_3b067 : MI := (yJ2_getChar_3b067, cJ2_getChar_3b067, 2, (some .char))
abbrev mJ2_charAt_3b067 : MI := (yJ2_charAt_3b067, cJ2_charAt_3b067, 2, (some .char))
abbrev mJ0_charAt_5068e : MI := (yJ0_charAt_5068e, cJ0_charAt_5068e, 2, (some .char))
abbrev mX3_isText : MI := (yX3_isText, cX3_isText, 3, (some .boolean))
abbrev mX3_readRule : MI := (yX3_readRule, cX3_readRule, 2, none)
abbrev mX3_isFigure : MI := (yX3_isFigure, cX3_isFigure, 2, (some .boolean))
abbrev mX3_readNumber : MI := (yX3_readNumber, cX3_readNumber, 1, none)
abbrev mX3_readToken : MI := (yX3_readToken, cX3_readToken, 1, none)
abbrev mX3_stands : MI := (yX3_stands, cX3_stands, 2, (some .boolean))
abbrev mX3_readLine : MI := (yX3_readLine, cX3_readLine, 3, none)
abbrev mX3_readLines : MI := (yX3_readLines, cX3_readLines, 3, (some .int))
abbrev mX4_init : MI := (yX4_init, cX4_init, 1, none)
abbrev mX4_enter : MI := (yX4_enter, cX4_enter, 6, (some .int))
abbrev mX5_init : MI := (yX5_init, cX5_init, 1, none)
abbrev mX5_isNewDeal : MI := (yX5_isNewDeal, cX5_isNewDeal, 3, (some .boolean))
abbrev mX5_enter : MI := (yX5_enter, cX5_enter, 6, (some .int))
abbrev mX5_countingOf : MI := (yX5_countingOf, cX5_countingOf, 4, (some .int))
abbrev mX5_doesCount : MI := (yX5_doesCount, cX5_doesCount, 2, (some .boolean))
abbrev mX6_oneIf : MI := (yX6_oneIf, cX6_oneIf, 1, (some .int))
abbrev mX5_countingOnes : MI := (yX5_countingOnes, cX5_countingOnes, 3, (some .int))
abbrev mX6_init : MI := (yX6_init, cX6_init, 2, none)
abbrev mX6_name : MI := (yX6_name, cX6_name, 2, (some .int))
abbrev mX6_isName : MI := (yX6_isName, cX6_isName, 2, (some .boolean))
abbrev mX6_seed : MI := (yX6_seed, cX6_seed, 4, (some .int))
abbrev mX6_pledgeRoom : MI := (yX6_pledgeRoom, cX6_pledgeRoom, 2, (some .int))
abbrev mX6_pledge : MI := (yX6_pledge, cX6_pledge, 3, (some .int))
abbrev mX6_arePair : MI := (yX6_arePair, cX6_arePair, 3, (some .boolean))
abbrev mX6_tie : MI := (yX6_tie, cX6_tie, 5, (some .int))
abbrev mX6_isTie : MI := (yX6_isTie, cX6_isTie, 2, (some .boolean))
abbrev mX6_hasMadeEnd : MI := (yX6_hasMadeEnd, cX6_hasMadeEnd, 2, (some .boolean))
abbrev mX6_faded : MI := (yX6_faded, cX6_faded, 4, (some .int))
abbrev mX6_isFined : MI := (yX6_isFined, cX6_isFined, 2, (some .boolean))
abbrev mX6_roomOf : MI := (yX6_roomOf, cX6_roomOf, 3, (some .int))
abbrev mX6_tieOf : MI := (yX6_tieOf, cX6_tieOf, 3, (some .int))
abbrev mX6_renew : MI := (yX6_renew, cX6_renew, 3, (some .int))
abbrev mX6_givenTo : MI := (yX6_givenTo, cX6_givenTo, 2, (some .int))
abbrev mX6_openTies : MI := (yX6_openTies, cX6_openTies, 5, (some .int))
abbrev mX6_of : MI := (yX6_of, cX6_of, 3, (some .int))
abbrev mX6_standingFor : MI := (yX6_standingFor, cX6_standingFor, 5, (some .int))
abbrev mJ6_bitCount_0f7a4 : MI := (yJ6_bitCount_0f7a4, cJ6_bitCount_0f7a4, 1, (some .int))
abbrev mX6_made : MI := (yX6_made, cX6_made, 4, (some .int))
abbrev mX6_day : MI := (yX6_day, cX6_day, 3, (some .int))
abbrev mX6_feed : MI := (yX6_feed, cX6_feed, 3, (some .int))
abbrev mX6_end : MI := (yX6_end, cX6_end, 3, (some .int))
abbrev mX6_rules : MI := (yX6_rules, cX6_rules, 2, (some .int))
abbrev mX6_fault : MI := (yX6_fault, cX6_fault, 1, (some .int))
abbrev mX6_rule : MI := (yX6_rule, cX6_rule, 2, (some .int))
abbrev mX6_layFlow : MI := (yX6_layFlow, cX6_layFlow, 2, none)
abbrev mX6_trust : MI := (yX6_trust, cX6_trust, 2, (some .int))
abbrev mX6_isHeap : MI := (yX6_isHeap, cX6_isHeap, 2, (some .boolean))
abbrev mX6_heap : MI := (yX6_heap, cX6_heap, 2, (some .int))
abbrev mX6_tiesOutOf : MI := (yX6_tiesOutOf, cX6_tiesOutOf, 5, (some .int))
abbrev mX6_givenBeyond : MI := (yX6_givenBeyond, cX6_givenBeyond, 4, (some .int))
abbrev mX6_cut : MI := (yX6_cut, cX6_cut, 4, (some .int))
abbrev mX6_isPlain : MI := (yX6_isPlain, cX6_isPlain, 2, (some .boolean))
abbrev mX6_low : MI := (yX6_low, cX6_low, 6, (some .int))
abbrev mX6_fillTrusts : MI := (yX6_fillTrusts, cX6_fillTrusts, 2, none)
abbrev mX6_twins : MI := (yX6_twins, cX6_twins, 7, (some .int))
abbrev mX6_refusalOf : MI := (yX6_refusalOf, cX6_refusalOf, 6, (some .int))
abbrev mX6_word : MI := (yX6_word, cX6_word, 6, (some .int))
abbrev mX6_isWord : MI := (yX6_isWord, cX6_isWord, 2, (some .boolean))
abbrev mX6_wordOf : MI := (yX6_wordOf, cX6_wordOf, 3, (some .int))
abbrev mX6_sayersOf : MI := (yX6_sayersOf, cX6_sayersOf, 5, (some .int))
abbrev mX6_weighSayers : MI := (yX6_weighSayers, cX6_weighSayers, 9, (some .int))
abbrev mX6_weight : MI := (yX6_weight, cX6_weight, 3, (some .int))
abbrev mX6_sayers : MI := (yX6_sayers, cX6_sayers, 2, (some .int))
abbrev mX6_summedMarks : MI := (yX6_summedMarks, cX6_summedMarks, 3, (some .int))
abbrev mX6_commonPart : MI := (yX6_commonPart, cX6_commonPart, 11, (some .long))
abbrev mX6_inLowest : MI := (yX6_inLowest, cX6_inLowest, 7, (some .long))
abbrev mX6_mark : MI := (yX6_mark, cX6_mark, 4, (some .int))
abbrev mX6_greatestStakes : MI := (yX6_greatestStakes, cX6_greatestStakes, 7, (some .int))
abbrev mX6_span : MI := (yX6_span, cX6_span, 8, (some .int))
abbrev mX6_wordsWithin : MI := (yX6_wordsWithin, cX6_wordsWithin, 6, (some .int))
abbrev mX6_ring : MI := (yX6_ring, cX6_ring, 3, (some .int))
abbrev mX6_choose : MI := (yX6_choose, cX6_choose, 5, (some .long))
abbrev mX6_waysOf : MI := (yX6_waysOf, cX6_waysOf, 8, (some .long))
abbrev mX6_odds : MI := (yX6_odds, cX6_odds, 4, (some .long))
abbrev mX6_oddest : MI := (yX6_oddest, cX6_oddest, 11, (some .long))
abbrev mX6_isOffer : MI := (yX6_isOffer, cX6_isOffer, 2, (some .boolean))
abbrev mX6_sellingNames : MI := (yX6_sellingNames, cX6_sellingNames, 3, (some .int))
abbrev mX6_boughtRoom : MI := (yX6_boughtRoom, cX6_boughtRoom, 2, (some .int))
abbrev mX6_gainBy : MI := (yX6_gainBy, cX6_gainBy, 6, (some .int))
abbrev mX6_gain : MI := (yX6_gain, cX6_gain, 4, (some .int))
abbrev mX6_best : MI := (yX6_best, cX6_best, 10, (some .int))
abbrev mX6_isSheet : MI := (yX6_isSheet, cX6_isSheet, 1, (some .boolean))
abbrev mX6_isLane : MI := (yX6_isLane, cX6_isLane, 1, (some .boolean))
abbrev mX6_sheet : MI := (yX6_sheet, cX6_sheet, 4, (some .int))
abbrev mX6_lay : MI := (yX6_lay, cX6_lay, 5, (some .int))
abbrev mX6_read : MI := (yX6_read, cX6_read, 10, (some .int))
abbrev mX6_lost : MI := (yX6_lost, cX6_lost, 1, (some .int))
abbrev mX6_countTrue : MI := (yX6_countTrue, cX6_countTrue, 4, (some .int))
abbrev mX6_countFined : MI := (yX6_countFined, cX6_countFined, 3, (some .int))
abbrev mX6_count : MI := (yX6_count, cX6_count, 2, (some .int))
abbrev mX7_firstRules : MI := (yX7_firstRules, cX7_firstRules, 2, none)
abbrev mX7_keepRules : MI := (yX7_keepRules, cX7_keepRules, 2, none)
abbrev mX7_init : MI := (yX7_init, cX7_init, 2, none)
abbrev mX7_in : MI := (yX7_in, cX7_in, 6, (some .boolean))
abbrev mX7_bits : MI := (yX7_bits, cX7_bits, 3, (some .int))
abbrev mX7_common : MI := (yX7_common, cX7_common, 10, (some .long))
abbrev mX7_isName : MI := (yX7_isName, cX7_isName, 2, (some .boolean))
abbrev mX7_isFined : MI := (yX7_isFined, cX7_isFined, 2, (some .boolean))
abbrev mX7_name : MI := (yX7_name, cX7_name, 2, (some .int))
abbrev mX7_seed : MI := (yX7_seed, cX7_seed, 4, (some .int))
abbrev mX7_pledged : MI := (yX7_pledged, cX7_pledged, 2, (some .int))
abbrev mX7_pledge : MI := (yX7_pledge, cX7_pledge, 3, (some .int))
abbrev mX7_tie : MI := (yX7_tie, cX7_tie, 5, (some .int))
abbrev mX7_faded : MI := (yX7_faded, cX7_faded, 4, (some .int))
abbrev mX7_roomOf : MI := (yX7_roomOf, cX7_roomOf, 3, (some .int))
abbrev mX7_isTie : MI := (yX7_isTie, cX7_isTie, 2, (some .boolean))
abbrev mX7_tieOf : MI := (yX7_tieOf, cX7_tieOf, 3, (some .int))
abbrev mX7_renew : MI := (yX7_renew, cX7_renew, 3, (some .int))
abbrev mX7_given : MI := (yX7_given, cX7_given, 2, (some .int))
abbrev mX7_of : MI := (yX7_of, cX7_of, 5, (some .int))
abbrev mX7_made : MI := (yX7_made, cX7_made, 4, (some .int))
abbrev mX7_day : MI := (yX7_day, cX7_day, 3, (some .int))
abbrev mX7_feed : MI := (yX7_feed, cX7_feed, 4, (some .int))
abbrev mX7_end : MI := (yX7_end, cX7_end, 3, (some .int))
abbrev mX7_wants : MI := (yX7_wants, cX7_wants, 3, none)
abbrev mX7_look : MI := (yX7_look, cX7_look, 2, (some .int))
abbrev mX7_is : MI := (yX7_is, cX7_is, 6, (some .boolean))
abbrev mX7_nameNow : MI := (yX7_nameNow, cX7_nameNow, 1, (some .int))
abbrev mX7_next : MI := (yX7_next, cX7_next, 2, none)
abbrev mX7_least : MI := (yX7_least, cX7_least, 1, (some .int))
abbrev mX7_most : MI := (yX7_most, cX7_most, 1, (some .int))
abbrev mX7_readLine : MI := (yX7_readLine, cX7_readLine, 3, none)
abbrev mX7_rules : MI := (yX7_rules, cX7_rules, 2, (some .int))
abbrev mX7_fault : MI := (yX7_fault, cX7_fault, 1, (some .int))
abbrev mX7_rule : MI := (yX7_rule, cX7_rule, 2, (some .int))
abbrev mX7_begins : MI := (yX7_begins, cX7_begins, 3, none)
abbrev mX7_reaches : MI := (yX7_reaches, cX7_reaches, 4, (some .boolean))
abbrev mX7_flows : MI := (yX7_flows, cX7_flows, 5, (some .int))
abbrev mX7_trustOf : MI := (yX7_trustOf, cX7_trustOf, 3, (some .int))
abbrev mX7_areNames : MI := (yX7_areNames, cX7_areNames, 2, (some .boolean))
abbrev mX7_trust : MI := (yX7_trust, cX7_trust, 2, (some .int))
abbrev mX7_heap : MI := (yX7_heap, cX7_heap, 2, (some .int))
abbrev mX7_cut : MI := (yX7_cut, cX7_cut, 8, (some .int))
abbrev mX7_isPlain : MI := (yX7_isPlain, cX7_isPlain, 2, (some .boolean))
abbrev mX7_low : MI := (yX7_low, cX7_low, 7, (some .int))
abbrev mX7_twins : MI := (yX7_twins, cX7_twins, 7, (some .int))
abbrev mX7_isWord : MI := (yX7_isWord, cX7_isWord, 5, (some .boolean))
abbrev mX7_says : MI := (yX7_says, cX7_says, 5, none)
abbrev mX7_word : MI := (yX7_word, cX7_word, 5, (some .int))
abbrev mX7_isFirst : MI := (yX7_isFirst, cX7_isFirst, 4, (some .boolean))
abbrev mX7_counts : MI := (yX7_counts, cX7_counts, 4, (some .boolean))
abbrev mX7_wordOf : MI := (yX7_wordOf, cX7_wordOf, 3, (some .int))
abbrev mX7_wordBy : MI := (yX7_wordBy, cX7_wordBy, 5, (some .int))
abbrev mX7_sayersOf : MI := (yX7_sayersOf, cX7_sayersOf, 4, (some .int))
abbrev mX7_weightOf : MI := (yX7_weightOf, cX7_weightOf, 5, (some .int))
abbrev mX7_weight : MI := (yX7_weight, cX7_weight, 3, (some .int))
abbrev mX7_sayers : MI := (yX7_sayers, cX7_sayers, 2, (some .int))
abbrev mX7_lists : MI := (yX7_lists, cX7_lists, 4, none)
abbrev mX7_fraction : MI := (yX7_fraction, cX7_fraction, 4, (some .int))
abbrev mX7_mark : MI := (yX7_mark, cX7_mark, 3, (some .int))
abbrev mX7_moved : MI := (yX7_moved, cX7_moved, 11, (some .int))
abbrev mX7_span : MI := (yX7_span, cX7_span, 4, (some .int))
abbrev mX7_isGood : MI := (yX7_isGood, cX7_isGood, 2, (some .boolean))
abbrev mX7_isBetween : MI := (yX7_isBetween, cX7_isBetween, 3, (some .boolean))
abbrev mX7_ringOf : MI := (yX7_ringOf, cX7_ringOf, 6, (some .int))
abbrev mX7_ring : MI := (yX7_ring, cX7_ring, 3, (some .int))
abbrev mX7_ways : MI := (yX7_ways, cX7_ways, 5, (some .long))
abbrev mX7_findOdds : MI := (yX7_findOdds, cX7_findOdds, 8, none)
abbrev mX7_odds : MI := (yX7_odds, cX7_odds, 3, (some .long))
abbrev mX7_oddest : MI := (yX7_oddest, cX7_oddest, 8, (some .long))
abbrev mX7_sells : MI := (yX7_sells, cX7_sells, 2, (some .boolean))
abbrev mX7_gainOf : MI := (yX7_gainOf, cX7_gainOf, 7, (some .int))
abbrev mX7_sellers : MI := (yX7_sellers, cX7_sellers, 3, (some .int))
abbrev mX7_gain : MI := (yX7_gain, cX7_gain, 4, (some .int))
abbrev mX7_best : MI := (yX7_best, cX7_best, 9, (some .int))
abbrev mX7_isSheet : MI := (yX7_isSheet, cX7_isSheet, 2, (some .boolean))
abbrev mX7_sheet : MI := (yX7_sheet, cX7_sheet, 5, (some .int))
abbrev mX7_lay : MI := (yX7_lay, cX7_lay, 4, (some .int))
abbrev mX7_refuses : MI := (yX7_refuses, cX7_refuses, 5, (some .int))
abbrev mX7_read : MI := (yX7_read, cX7_read, 9, (some .int))
abbrev mX7_lost : MI := (yX7_lost, cX7_lost, 1, (some .int))
abbrev mX7_count : MI := (yX7_count, cX7_count, 8, (some .int))
abbrev mJ9_max_7cf53 : MI := (yJ9_max_7cf53, cJ9_max_7cf53, 2, (some .int))
abbrev mJ9_max_f86c9 : MI := (yJ9_max_f86c9, cJ9_max_f86c9, 4, (some .long))
abbrev mJ9_min_7cf53 : MI := (yJ9_min_7cf53, cJ9_min_7cf53, 2, (some .int))
theorem fJ7_fill_53178 : MFs mJ7_fill_53178 2 := ⟨⟨aw_in 580 (by decide +kernel) rfl, aw_in 95 (by decide +kernel) rfl, ⟨by decide +kernel, by decide +kernel, by decide +kernel⟩, by decide⟩, aw_in 579 (by decide +kernel) rfl⟩
theorem fX0_clear : MFv mX0_clear 0 := ⟨⟨aw_in 577 (by decide +kernel) rfl, aw_in 85 (by decide +kernel) rfl, ⟨by decide +kernel, by decide +kernel, by decide +kernel⟩, by decide⟩, aw_in 575 (by decide +kernel) rfl, aw_in 576 (by decide +kernel) rfl⟩
theorem fX0_widen : MFv mX0_widen 3 := ⟨⟨aw_in 588 (by decide +kernel) rfl, aw_in 85 (by decide +kernel) rfl, ⟨by decide +kernel, by decide +kernel, by decide +kernel⟩, by decide⟩, aw_in 587 (by decide +kernel) rfl, aw_in 19 (by decide +kernel) rfl⟩
theorem fX0_give : MFv mX0_give 2 := ⟨⟨aw_in 584 (by decide +kernel) rfl, aw_in 85 (by decide +kernel) rfl, ⟨by decide +kernel, by decide +kernel, by decide +kernel⟩, by decide⟩, aw_in 582 (by decide +kernel) rfl, aw_in 583 (by decide +kernel) rfl⟩
theorem fX0_join : MFv mX0_join 3 := ⟨⟨aw_in 592 (by decide +kernel) rfl, aw_in 85 (by decide +kernel) rfl, ⟨by decide +kernel, by decide +kernel, by decide +kernel⟩, by decide⟩, aw_in 590 (by decide +kernel) rfl, aw_in 591 (by decide +kernel) rfl⟩
theorem fX0_partCheat : MFv mX0_partCheat 0 := ⟨⟨aw_in 768 (by decide +kernel) rfl, aw_in 85 (by decide +kernel) rfl, ⟨by decide +kernel, by decide +kernel, by decide +kernel⟩, by decide⟩, aw_in 766 (by decide +kernel) rfl, aw_in 767 (by decide +kernel) rfl⟩
theorem fX6_hasBit : MFs mX6_hasBit 2 := ⟨⟨aw_in 418 (by decide +kernel) rfl, aw_in 80 (by decide +kernel) rfl, ⟨by decide +kernel, by decide +kernel, by decide +kernel⟩, by decide⟩, aw_in 417 (by decide +kernel) rfl⟩
theorem fX0_search : MFv mX0_search 1 := ⟨⟨aw_in 601 (by decide +kernel) rfl, aw_in 85 (by decide +kernel) rfl, ⟨by decide +kernel, by decide +kernel, by decide +kernel⟩, by decide⟩, aw_in 600 (by decide +kernel) rfl, aw_in 20 (by decide +kernel) rfl⟩
theorem fX0_push : MFv mX0_push 1 := ⟨⟨aw_in 606 (by decide +kernel) rfl, aw_in 85 (by decide +kernel) rfl, ⟨by decide +kernel, by decide +kernel, by decide +kernel⟩, by decide⟩, aw_in 605 (by decide +kernel) rfl, aw_in 21 (by decide +kernel) rfl⟩
theorem fX0_most : MFv mX0_most 1 := ⟨⟨aw_in 596 (by decide +kernel) rfl, aw_in 85 (by decide +kernel) rfl, ⟨by decide +kernel, by decide +kernel, by decide +kernel⟩, by decide⟩, aw_in 594 (by decide +kernel) rfl, aw_in 595 (by decide +kernel) rfl⟩
theorem fX1_enter : MFv mX1_enter 1 := ⟨⟨aw_in 342 (by decide +kernel) rfl, aw_in 81 (by decide +kernel) rfl, ⟨by decide +kernel, by decide +kernel, by decide +kernel⟩, by decide⟩, aw_in 340 (by decide +kernel) rfl, aw_in 341 (by decide +kernel) rfl⟩
theorem fX2_isNothing : MFv mX2_isNothing 0 := ⟨⟨aw_in 799 (by decide +kernel) rfl, aw_in 87 (by decide +kernel) rfl, ⟨by decide +kernel, by decide +kernel, by decide +kernel⟩, by decide⟩, aw_in 797 (by decide +kernel) rfl, aw_in 798 (by decide +kernel) rfl⟩
theorem fX2_renewRow : MFv mX2_renewRow 2 := ⟨⟨aw_in 786 (by decide +kernel) rfl, aw_in 87 (by decide +kernel) rfl, ⟨by decide +kernel, by decide +kernel, by decide +kernel⟩, by decide⟩, aw_in 784 (by decide +kernel) rfl, aw_in 785 (by decide +kernel) rfl⟩
theorem fX6_within : MFs mX6_within 3 := ⟨⟨aw_in 338 (by decide +kernel) rfl, aw_in 80 (by decide +kernel) rfl, ⟨by decide +kernel, by decide +kernel, by decide +kernel⟩, by decide⟩, aw_in 337 (by decide +kernel) rfl⟩
theorem fX2_faultAt : MFv mX2_faultAt 1 := ⟨⟨aw_in 795 (by decide +kernel) rfl, aw_in 87 (by decide +kernel) rfl, ⟨by decide +kernel, by decide +kernel, by decide +kernel⟩, by decide⟩, aw_in 793 (by decide +kernel) rfl, aw_in 794 (by decide +kernel) rfl⟩
theorem fX2_put : MFv mX2_put 2 := ⟨⟨aw_in 804 (by decide +kernel) rfl, aw_in 87 (by decide +kernel) rfl, ⟨by decide +kernel, by decide +kernel, by decide +kernel⟩, by decide⟩, aw_in 802 (by decide +kernel) rfl, aw_in 803 (by decide +kernel) rfl⟩
theorem fX2_wholeWords : MFv mX2_wholeWords 3 := ⟨⟨aw_in 812 (by decide +kernel) rfl, aw_in 87 (by decide +kernel) rfl, ⟨by decide +kernel, by decide +kernel, by decide +kernel⟩, by decide⟩, aw_in 810 (by decide +kernel) rfl, aw_in 811 (by decide +kernel) rfl⟩
theorem fX2_faultOfReading : MFv mX2_faultOfReading 3 := ⟨⟨aw_in 817 (by decide +kernel) rfl, aw_in 87 (by decide +kernel) rfl, ⟨by decide +kernel, by decide +kernel, by decide +kernel⟩, by decide⟩, aw_in 815 (by decide +kernel) rfl, aw_in 816 (by decide +kernel) rfl⟩
theorem fX3_takeEight : MFv mX3_takeEight 1 := ⟨⟨aw_in 444 (by decide +kernel) rfl, aw_in 84 (by decide +kernel) rfl, ⟨by decide +kernel, by decide +kernel, by decide +kernel⟩, by decide⟩, aw_in 442 (by decide +kernel) rfl, aw_in 443 (by decide +kernel) rfl⟩
theorem fX3_isLetter : MFv mX3_isLetter 1 := ⟨⟨aw_in 464 (by decide +kernel) rfl, aw_in 84 (by decide +kernel) rfl, ⟨by decide +kernel, by decide +kernel, by decide +kernel⟩, by decide⟩, aw_in 463 (by decide +kernel) rfl, aw_in 11 (by decide +kernel) rfl⟩
theorem fX3_textOf : MFs mX3_textOf 1 := ⟨⟨aw_in 472 (by decide +kernel) rfl, aw_in 84 (by decide +kernel) rfl, ⟨by decide +kernel, by decide +kernel, by decide +kernel⟩, by decide⟩, aw_in 471 (by decide +kernel) rfl⟩
theorem fJ0_coder_7d493 : MFv mJ0_coder_7d493 0 := ⟨⟨aw_in 495 (by decide +kernel) rfl, aw_in 91 (by decide +kernel) rfl, ⟨by decide +kernel, by decide +kernel, by decide +kernel⟩, by decide⟩, aw_in 493 (by decide +kernel) rfl, aw_in 494 (by decide +kernel) rfl⟩
theorem fJ0_length_8abf5 : MFv mJ0_length_8abf5 0 := ⟨⟨aw_in 491 (by decide +kernel) rfl, aw_in 91 (by decide +kernel) rfl, ⟨by decide +kernel, by decide +kernel, by decide +kernel⟩, by decide⟩, aw_in 489 (by decide +kernel) rfl, aw_in 490 (by decide +kernel) rfl⟩
theorem fJ0_isLatin1_aae02 : MFv mJ0_isLatin1_aae02 0 := ⟨⟨aw_in 505 (by decide +kernel) rfl, aw_in 91 (by decide +kernel) rfl, ⟨by decide +kernel, by decide +kernel, by decide +kernel⟩, by decide⟩, aw_in 503 (by decide +kernel) rfl, aw_in 504 (by decide +kernel) rfl⟩
theorem fJ3_checkIndex_8e157 : MFs mJ3_checkIndex_8e157 3 := ⟨⟨aw_in 516 (by decide +kernel) rfl, aw_in 93 (by decide +kernel) rfl, ⟨by decide +kernel, by decide +kernel, by decide +kernel⟩, by decide⟩, aw_in 515 (by decide +kernel) rfl⟩
theorem fJ0_checkIndex_df160 : MFs mJ0_checkIndex_df160 2 := ⟨⟨aw_in 511 (by decide +kernel) rfl, aw_in 91 (by decide +kernel) rfl, ⟨by decide +kernel, by decide +kernel, by decide +kernel⟩, by decide⟩, aw_in 510 (by decide +kernel) rfl⟩
theorem fJ1_charAt_3b067 : MFs mJ1_charAt_3b067 2 := ⟨⟨aw_in 508 (by decide +kernel) rfl, aw_in 92 (by decide +kernel) rfl, ⟨by decide +kernel, by decide +kernel, by decide +kernel⟩, by decide⟩, aw_in 507 (by decide +kernel) rfl⟩
theorem fJ2_length_9d52b : MFs mJ2_length_9d52b 1 := ⟨⟨aw_in 525 (by decide +kernel) rfl, aw_in 94 (by decide +kernel) rfl, ⟨by decide +kernel, by decide +kernel, by decide +kernel⟩, by decide⟩, aw_in 524 (by decide +kernel) rfl⟩
theorem fJ2_checkIndex_2214a : MFs mJ2_checkIndex_2214a 2 := ⟨⟨aw_in 522 (by decide +kernel) rfl, aw_in 94 (by decide +kernel) rfl, ⟨by decide +kernel, by decide +kernel, by decide +kernel⟩, by decide⟩, aw_in 521 (by decide +kernel) rfl⟩
theorem fJ2_getChar_3b067 : MFs mJ2_getChar_3b067 2 := ⟨⟨aw_in 529 (by decide +kernel) rfl, aw_in 94 (by decide +kernel) rfl, ⟨by decide +kernel, by decide +kernel, by decide +kernel⟩, by decide⟩, aw_in 528 (by decide +kernel) rfl⟩
theorem fJ2_charAt_3b067 : MFs mJ2_charAt_3b067 2 := ⟨⟨aw_in 519 (by decide +kernel) rfl, aw_in 94 (by decide +kernel) rfl, ⟨by decide +kernel, by decide +kernel, by decide +kernel⟩, by decide⟩, aw_in 518 (by decide +kernel) rfl⟩
theorem fJ0_charAt_5068e : MFv mJ0_charAt_5068e 1 := ⟨⟨aw_in 501 (by decide +kernel) rfl, aw_in 91 (by decide +kernel) rfl, ⟨by decide +kernel, by decide +kernel, by decide +kernel⟩, by decide⟩, aw_in 499 (by decide +kernel) rfl, aw_in 500 (by decide +kernel) rfl⟩
theorem fX3_isText : MFv mX3_isText 1 := ⟨⟨aw_in 487 (by decide +kernel) rfl, aw_in 84 (by decide +kernel) rfl, ⟨by decide +kernel, by decide +kernel, by decide +kernel⟩, by decide⟩, aw_in 486 (by decide +kernel) rfl, aw_in 13 (by decide +kernel) rfl⟩
theorem fX3_readRule : MFv mX3_readRule 0 := ⟨⟨aw_in 469 (by decide +kernel) rfl, aw_in 84 (by decide +kernel) rfl, ⟨by decide +kernel, by decide +kernel, by decide +kernel⟩, by decide⟩, aw_in 468 (by decide +kernel) rfl, aw_in 12 (by decide +kernel) rfl⟩
theorem fX3_isFigure : MFv mX3_isFigure 1 := ⟨⟨aw_in 539 (by decide +kernel) rfl, aw_in 84 (by decide +kernel) rfl, ⟨by decide +kernel, by decide +kernel, by decide +kernel⟩, by decide⟩, aw_in 538 (by decide +kernel) rfl, aw_in 14 (by decide +kernel) rfl⟩
theorem fX3_readNumber : MFv mX3_readNumber 0 := ⟨⟨aw_in 543 (by decide +kernel) rfl, aw_in 84 (by decide +kernel) rfl, ⟨by decide +kernel, by decide +kernel, by decide +kernel⟩, by decide⟩, aw_in 542 (by decide +kernel) rfl, aw_in 15 (by decide +kernel) rfl⟩
theorem fX3_readToken : MFv mX3_readToken 0 := ⟨⟨aw_in 460 (by decide +kernel) rfl, aw_in 84 (by decide +kernel) rfl, ⟨by decide +kernel, by decide +kernel, by decide +kernel⟩, by decide⟩, aw_in 459 (by decide +kernel) rfl, aw_in 10 (by decide +kernel) rfl⟩
theorem fX3_stands : MFv mX3_stands 1 := ⟨⟨aw_in 551 (by decide +kernel) rfl, aw_in 84 (by decide +kernel) rfl, ⟨by decide +kernel, by decide +kernel, by decide +kernel⟩, by decide⟩, aw_in 550 (by decide +kernel) rfl, aw_in 17 (by decide +kernel) rfl⟩
theorem fX3_readLine : MFv mX3_readLine 1 := ⟨⟨aw_in 547 (by decide +kernel) rfl, aw_in 84 (by decide +kernel) rfl, ⟨by decide +kernel, by decide +kernel, by decide +kernel⟩, by decide⟩, aw_in 546 (by decide +kernel) rfl, aw_in 16 (by decide +kernel) rfl⟩
theorem fX3_readLines : MFv mX3_readLines 1 := ⟨⟨aw_in 456 (by decide +kernel) rfl, aw_in 84 (by decide +kernel) rfl, ⟨by decide +kernel, by decide +kernel, by decide +kernel⟩, by decide⟩, aw_in 454 (by decide +kernel) rfl, aw_in 455 (by decide +kernel) rfl⟩
theorem fX4_enter : MFv mX4_enter 5 := ⟨⟨aw_in 373 (by decide +kernel) rfl, aw_in 82 (by decide +kernel) rfl, ⟨by decide +kernel, by decide +kernel, by decide +kernel⟩, by decide⟩, aw_in 371 (by decide +kernel) rfl, aw_in 372 (by decide +kernel) rfl⟩
theorem fX5_isNewDeal : MFv mX5_isNewDeal 1 := ⟨⟨aw_in 661 (by decide +kernel) rfl, aw_in 83 (by decide +kernel) rfl, ⟨by decide +kernel, by decide +kernel, by decide +kernel⟩, by decide⟩, aw_in 660 (by decide +kernel) rfl, aw_in 28 (by decide +kernel) rfl⟩
theorem fX5_enter : MFv mX5_enter 5 := ⟨⟨aw_in 657 (by decide +kernel) rfl, aw_in 83 (by decide +kernel) rfl, ⟨by decide +kernel, by decide +kernel, by decide +kernel⟩, by decide⟩, aw_in 655 (by decide +kernel) rfl, aw_in 656 (by decide +kernel) rfl⟩
theorem fX5_countingOf : MFv mX5_countingOf 2 := ⟨⟨aw_in 677 (by decide +kernel) rfl, aw_in 83 (by decide +kernel) rfl, ⟨by decide +kernel, by decide +kernel, by decide +kernel⟩, by decide⟩, aw_in 675 (by decide +kernel) rfl, aw_in 676 (by decide +kernel) rfl⟩
theorem fX5_doesCount : MFv mX5_doesCount 1 := ⟨⟨aw_in 673 (by decide +kernel) rfl, aw_in 83 (by decide +kernel) rfl, ⟨by decide +kernel, by decide +kernel, by decide +kernel⟩, by decide⟩, aw_in 671 (by decide +kernel) rfl, aw_in 672 (by decide +kernel) rfl⟩
theorem fX6_oneIf : MFs mX6_oneIf 1 := ⟨⟨aw_in 353 (by decide +kernel) rfl, aw_in 80 (by decide +kernel) rfl, ⟨by decide +kernel, by decide +kernel, by decide +kernel⟩, by decide⟩, aw_in 352 (by decide +kernel) rfl⟩
theorem fX5_countingOnes : MFv mX5_countingOnes 0 := ⟨⟨aw_in 837 (by decide +kernel) rfl, aw_in 83 (by decide +kernel) rfl, ⟨by decide +kernel, by decide +kernel, by decide +kernel⟩, by decide⟩, aw_in 835 (by decide +kernel) rfl, aw_in 836 (by decide +kernel) rfl⟩
theorem fX6_name : MFv mX6_name 1 := ⟨⟨aw_in 335 (by decide +kernel) rfl, aw_in 80 (by decide +kernel) rfl, ⟨by decide +kernel, by decide +kernel, by decide +kernel⟩, by decide⟩, aw_in 333 (by decide +kernel) rfl, aw_in 334 (by decide +kernel) rfl⟩
theorem fX6_isName : MFv mX6_isName 1 := ⟨⟨aw_in 350 (by decide +kernel) rfl, aw_in 80 (by decide +kernel) rfl, ⟨by decide +kernel, by decide +kernel, by decide +kernel⟩, by decide⟩, aw_in 349 (by decide +kernel) rfl, aw_in 0 (by decide +kernel) rfl⟩
theorem fX6_seed : MFv mX6_seed 2 := ⟨⟨aw_in 346 (by decide +kernel) rfl, aw_in 80 (by decide +kernel) rfl, ⟨by decide +kernel, by decide +kernel, by decide +kernel⟩, by decide⟩, aw_in 344 (by decide +kernel) rfl, aw_in 345 (by decide +kernel) rfl⟩
theorem fX6_pledgeRoom : MFv mX6_pledgeRoom 1 := ⟨⟨aw_in 361 (by decide +kernel) rfl, aw_in 80 (by decide +kernel) rfl, ⟨by decide +kernel, by decide +kernel, by decide +kernel⟩, by decide⟩, aw_in 360 (by decide +kernel) rfl, aw_in 1 (by decide +kernel) rfl⟩
theorem fX6_pledge : MFv mX6_pledge 2 := ⟨⟨aw_in 357 (by decide +kernel) rfl, aw_in 80 (by decide +kernel) rfl, ⟨by decide +kernel, by decide +kernel, by decide +kernel⟩, by decide⟩, aw_in 355 (by decide +kernel) rfl, aw_in 356 (by decide +kernel) rfl⟩
theorem fX6_arePair : MFv mX6_arePair 2 := ⟨⟨aw_in 369 (by decide +kernel) rfl, aw_in 80 (by decide +kernel) rfl, ⟨by decide +kernel, by decide +kernel, by decide +kernel⟩, by decide⟩, aw_in 368 (by decide +kernel) rfl, aw_in 2 (by decide +kernel) rfl⟩
theorem fX6_tie : MFv mX6_tie 4 := ⟨⟨aw_in 365 (by decide +kernel) rfl, aw_in 80 (by decide +kernel) rfl, ⟨by decide +kernel, by decide +kernel, by decide +kernel⟩, by decide⟩, aw_in 363 (by decide +kernel) rfl, aw_in 364 (by decide +kernel) rfl⟩
theorem fX6_isTie : MFv mX6_isTie 1 := ⟨⟨aw_in 381 (by decide +kernel) rfl, aw_in 80 (by decide +kernel) rfl, ⟨by decide +kernel, by decide +kernel, by decide +kernel⟩, by decide⟩, aw_in 380 (by decide +kernel) rfl, aw_in 3 (by decide +kernel) rfl⟩
theorem fX6_hasMadeEnd : MFv mX6_hasMadeEnd 1 := ⟨⟨aw_in 389 (by decide +kernel) rfl, aw_in 80 (by decide +kernel) rfl, ⟨by decide +kernel, by decide +kernel, by decide +kernel⟩, by decide⟩, aw_in 388 (by decide +kernel) rfl, aw_in 5 (by decide +kernel) rfl⟩
theorem fX6_faded : MFs mX6_faded 3 := ⟨⟨aw_in 392 (by decide +kernel) rfl, aw_in 80 (by decide +kernel) rfl, ⟨by decide +kernel, by decide +kernel, by decide +kernel⟩, by decide⟩, aw_in 391 (by decide +kernel) rfl⟩
theorem fX6_isFined : MFv mX6_isFined 1 := ⟨⟨aw_in 399 (by decide +kernel) rfl, aw_in 80 (by decide +kernel) rfl, ⟨by decide +kernel, by decide +kernel, by decide +kernel⟩, by decide⟩, aw_in 398 (by decide +kernel) rfl, aw_in 6 (by decide +kernel) rfl⟩
theorem fX6_roomOf : MFv mX6_roomOf 1 := ⟨⟨aw_in 385 (by decide +kernel) rfl, aw_in 80 (by decide +kernel) rfl, ⟨by decide +kernel, by decide +kernel, by decide +kernel⟩, by decide⟩, aw_in 384 (by decide +kernel) rfl, aw_in 4 (by decide +kernel) rfl⟩
theorem fX6_tieOf : MFv mX6_tieOf 2 := ⟨⟨aw_in 377 (by decide +kernel) rfl, aw_in 80 (by decide +kernel) rfl, ⟨by decide +kernel, by decide +kernel, by decide +kernel⟩, by decide⟩, aw_in 375 (by decide +kernel) rfl, aw_in 376 (by decide +kernel) rfl⟩
theorem fX6_renew : MFv mX6_renew 1 := ⟨⟨aw_in 403 (by decide +kernel) rfl, aw_in 80 (by decide +kernel) rfl, ⟨by decide +kernel, by decide +kernel, by decide +kernel⟩, by decide⟩, aw_in 401 (by decide +kernel) rfl, aw_in 402 (by decide +kernel) rfl⟩
theorem fX6_givenTo : MFv mX6_givenTo 1 := ⟨⟨aw_in 411 (by decide +kernel) rfl, aw_in 80 (by decide +kernel) rfl, ⟨by decide +kernel, by decide +kernel, by decide +kernel⟩, by decide⟩, aw_in 410 (by decide +kernel) rfl, aw_in 7 (by decide +kernel) rfl⟩
theorem fX6_openTies : MFv mX6_openTies 1 := ⟨⟨aw_in 415 (by decide +kernel) rfl, aw_in 80 (by decide +kernel) rfl, ⟨by decide +kernel, by decide +kernel, by decide +kernel⟩, by decide⟩, aw_in 414 (by decide +kernel) rfl, aw_in 8 (by decide +kernel) rfl⟩
theorem fX6_of : MFv mX6_of 2 := ⟨⟨aw_in 407 (by decide +kernel) rfl, aw_in 80 (by decide +kernel) rfl, ⟨by decide +kernel, by decide +kernel, by decide +kernel⟩, by decide⟩, aw_in 405 (by decide +kernel) rfl, aw_in 406 (by decide +kernel) rfl⟩
theorem fX6_standingFor : MFv mX6_standingFor 1 := ⟨⟨aw_in 426 (by decide +kernel) rfl, aw_in 80 (by decide +kernel) rfl, ⟨by decide +kernel, by decide +kernel, by decide +kernel⟩, by decide⟩, aw_in 425 (by decide +kernel) rfl, aw_in 9 (by decide +kernel) rfl⟩
theorem fJ6_bitCount_0f7a4 : MFs mJ6_bitCount_0f7a4 1 := ⟨⟨aw_in 429 (by decide +kernel) rfl, aw_in 90 (by decide +kernel) rfl, ⟨by decide +kernel, by decide +kernel, by decide +kernel⟩, by decide⟩, aw_in 428 (by decide +kernel) rfl⟩
theorem fX6_made : MFv mX6_made 1 := ⟨⟨aw_in 422 (by decide +kernel) rfl, aw_in 80 (by decide +kernel) rfl, ⟨by decide +kernel, by decide +kernel, by decide +kernel⟩, by decide⟩, aw_in 420 (by decide +kernel) rfl, aw_in 421 (by decide +kernel) rfl⟩
theorem fX6_day : MFv mX6_day 1 := ⟨⟨aw_in 436 (by decide +kernel) rfl, aw_in 80 (by decide +kernel) rfl, ⟨by decide +kernel, by decide +kernel, by decide +kernel⟩, by decide⟩, aw_in 434 (by decide +kernel) rfl, aw_in 435 (by decide +kernel) rfl⟩
theorem fX6_feed : MFv mX6_feed 1 := ⟨⟨aw_in 440 (by decide +kernel) rfl, aw_in 80 (by decide +kernel) rfl, ⟨by decide +kernel, by decide +kernel, by decide +kernel⟩, by decide⟩, aw_in 438 (by decide +kernel) rfl, aw_in 439 (by decide +kernel) rfl⟩
theorem fX6_end : MFv mX6_end 1 := ⟨⟨aw_in 448 (by decide +kernel) rfl, aw_in 80 (by decide +kernel) rfl, ⟨by decide +kernel, by decide +kernel, by decide +kernel⟩, by decide⟩, aw_in 446 (by decide +kernel) rfl, aw_in 447 (by decide +kernel) rfl⟩
theorem fX6_rules : MFv mX6_rules 0 := ⟨⟨aw_in 452 (by decide +kernel) rfl, aw_in 80 (by decide +kernel) rfl, ⟨by decide +kernel, by decide +kernel, by decide +kernel⟩, by decide⟩, aw_in 450 (by decide +kernel) rfl, aw_in 451 (by decide +kernel) rfl⟩
theorem fX6_fault : MFv mX6_fault 0 := ⟨⟨aw_in 561 (by decide +kernel) rfl, aw_in 80 (by decide +kernel) rfl, ⟨by decide +kernel, by decide +kernel, by decide +kernel⟩, by decide⟩, aw_in 559 (by decide +kernel) rfl, aw_in 560 (by decide +kernel) rfl⟩
theorem fX6_rule : MFv mX6_rule 1 := ⟨⟨aw_in 565 (by decide +kernel) rfl, aw_in 80 (by decide +kernel) rfl, ⟨by decide +kernel, by decide +kernel, by decide +kernel⟩, by decide⟩, aw_in 563 (by decide +kernel) rfl, aw_in 564 (by decide +kernel) rfl⟩
theorem fX6_layFlow : MFv mX6_layFlow 0 := ⟨⟨aw_in 573 (by decide +kernel) rfl, aw_in 80 (by decide +kernel) rfl, ⟨by decide +kernel, by decide +kernel, by decide +kernel⟩, by decide⟩, aw_in 572 (by decide +kernel) rfl, aw_in 18 (by decide +kernel) rfl⟩
theorem fX6_trust : MFv mX6_trust 1 := ⟨⟨aw_in 569 (by decide +kernel) rfl, aw_in 80 (by decide +kernel) rfl, ⟨by decide +kernel, by decide +kernel, by decide +kernel⟩, by decide⟩, aw_in 567 (by decide +kernel) rfl, aw_in 568 (by decide +kernel) rfl⟩
theorem fX6_isHeap : MFv mX6_isHeap 1 := ⟨⟨aw_in 617 (by decide +kernel) rfl, aw_in 80 (by decide +kernel) rfl, ⟨by decide +kernel, by decide +kernel, by decide +kernel⟩, by decide⟩, aw_in 616 (by decide +kernel) rfl, aw_in 22 (by decide +kernel) rfl⟩
theorem fX6_heap : MFv mX6_heap 1 := ⟨⟨aw_in 613 (by decide +kernel) rfl, aw_in 80 (by decide +kernel) rfl, ⟨by decide +kernel, by decide +kernel, by decide +kernel⟩, by decide⟩, aw_in 611 (by decide +kernel) rfl, aw_in 612 (by decide +kernel) rfl⟩
theorem fX6_tiesOutOf : MFv mX6_tiesOutOf 1 := ⟨⟨aw_in 625 (by decide +kernel) rfl, aw_in 80 (by decide +kernel) rfl, ⟨by decide +kernel, by decide +kernel, by decide +kernel⟩, by decide⟩, aw_in 624 (by decide +kernel) rfl, aw_in 23 (by decide +kernel) rfl⟩
theorem fX6_givenBeyond : MFv mX6_givenBeyond 1 := ⟨⟨aw_in 629 (by decide +kernel) rfl, aw_in 80 (by decide +kernel) rfl, ⟨by decide +kernel, by decide +kernel, by decide +kernel⟩, by decide⟩, aw_in 628 (by decide +kernel) rfl, aw_in 24 (by decide +kernel) rfl⟩
theorem fX6_cut : MFv mX6_cut 2 := ⟨⟨aw_in 621 (by decide +kernel) rfl, aw_in 80 (by decide +kernel) rfl, ⟨by decide +kernel, by decide +kernel, by decide +kernel⟩, by decide⟩, aw_in 619 (by decide +kernel) rfl, aw_in 620 (by decide +kernel) rfl⟩
theorem fX6_isPlain : MFv mX6_isPlain 1 := ⟨⟨aw_in 637 (by decide +kernel) rfl, aw_in 80 (by decide +kernel) rfl, ⟨by decide +kernel, by decide +kernel, by decide +kernel⟩, by decide⟩, aw_in 636 (by decide +kernel) rfl, aw_in 25 (by decide +kernel) rfl⟩
theorem fX6_low : MFv mX6_low 1 := ⟨⟨aw_in 633 (by decide +kernel) rfl, aw_in 80 (by decide +kernel) rfl, ⟨by decide +kernel, by decide +kernel, by decide +kernel⟩, by decide⟩, aw_in 631 (by decide +kernel) rfl, aw_in 632 (by decide +kernel) rfl⟩
theorem fX6_fillTrusts : MFv mX6_fillTrusts 0 := ⟨⟨aw_in 645 (by decide +kernel) rfl, aw_in 80 (by decide +kernel) rfl, ⟨by decide +kernel, by decide +kernel, by decide +kernel⟩, by decide⟩, aw_in 644 (by decide +kernel) rfl, aw_in 26 (by decide +kernel) rfl⟩
theorem fX6_twins : MFv mX6_twins 1 := ⟨⟨aw_in 641 (by decide +kernel) rfl, aw_in 80 (by decide +kernel) rfl, ⟨by decide +kernel, by decide +kernel, by decide +kernel⟩, by decide⟩, aw_in 639 (by decide +kernel) rfl, aw_in 640 (by decide +kernel) rfl⟩
theorem fX6_refusalOf : MFv mX6_refusalOf 5 := ⟨⟨aw_in 653 (by decide +kernel) rfl, aw_in 80 (by decide +kernel) rfl, ⟨by decide +kernel, by decide +kernel, by decide +kernel⟩, by decide⟩, aw_in 652 (by decide +kernel) rfl, aw_in 27 (by decide +kernel) rfl⟩
theorem fX6_word : MFv mX6_word 4 := ⟨⟨aw_in 649 (by decide +kernel) rfl, aw_in 80 (by decide +kernel) rfl, ⟨by decide +kernel, by decide +kernel, by decide +kernel⟩, by decide⟩, aw_in 647 (by decide +kernel) rfl, aw_in 648 (by decide +kernel) rfl⟩
theorem fX6_isWord : MFv mX6_isWord 1 := ⟨⟨aw_in 669 (by decide +kernel) rfl, aw_in 80 (by decide +kernel) rfl, ⟨by decide +kernel, by decide +kernel, by decide +kernel⟩, by decide⟩, aw_in 668 (by decide +kernel) rfl, aw_in 29 (by decide +kernel) rfl⟩
theorem fX6_wordOf : MFv mX6_wordOf 2 := ⟨⟨aw_in 665 (by decide +kernel) rfl, aw_in 80 (by decide +kernel) rfl, ⟨by decide +kernel, by decide +kernel, by decide +kernel⟩, by decide⟩, aw_in 663 (by decide +kernel) rfl, aw_in 664 (by decide +kernel) rfl⟩
theorem fX6_sayersOf : MFv mX6_sayersOf 1 := ⟨⟨aw_in 685 (by decide +kernel) rfl, aw_in 80 (by decide +kernel) rfl, ⟨by decide +kernel, by decide +kernel, by decide +kernel⟩, by decide⟩, aw_in 684 (by decide +kernel) rfl, aw_in 30 (by decide +kernel) rfl⟩
theorem fX6_weighSayers : MFv mX6_weighSayers 1 := ⟨⟨aw_in 689 (by decide +kernel) rfl, aw_in 80 (by decide +kernel) rfl, ⟨by decide +kernel, by decide +kernel, by decide +kernel⟩, by decide⟩, aw_in 688 (by decide +kernel) rfl, aw_in 31 (by decide +kernel) rfl⟩
theorem fX6_weight : MFv mX6_weight 2 := ⟨⟨aw_in 681 (by decide +kernel) rfl, aw_in 80 (by decide +kernel) rfl, ⟨by decide +kernel, by decide +kernel, by decide +kernel⟩, by decide⟩, aw_in 679 (by decide +kernel) rfl, aw_in 680 (by decide +kernel) rfl⟩
theorem fX6_sayers : MFv mX6_sayers 1 := ⟨⟨aw_in 694 (by decide +kernel) rfl, aw_in 80 (by decide +kernel) rfl, ⟨by decide +kernel, by decide +kernel, by decide +kernel⟩, by decide⟩, aw_in 692 (by decide +kernel) rfl, aw_in 693 (by decide +kernel) rfl⟩
theorem fX6_summedMarks : MFv mX6_summedMarks 0 := ⟨⟨aw_in 702 (by decide +kernel) rfl, aw_in 80 (by decide +kernel) rfl, ⟨by decide +kernel, by decide +kernel, by decide +kernel⟩, by decide⟩, aw_in 701 (by decide +kernel) rfl, aw_in 32 (by decide +kernel) rfl⟩
theorem fX6_commonPart : MFs mX6_commonPart 2 := ⟨⟨aw_in 708 (by decide +kernel) rfl, aw_in 80 (by decide +kernel) rfl, ⟨by decide +kernel, by decide +kernel, by decide +kernel⟩, by decide⟩, aw_in 707 (by decide +kernel) rfl⟩
theorem fX6_inLowest : MFs mX6_inLowest 3 := ⟨⟨aw_in 705 (by decide +kernel) rfl, aw_in 80 (by decide +kernel) rfl, ⟨by decide +kernel, by decide +kernel, by decide +kernel⟩, by decide⟩, aw_in 704 (by decide +kernel) rfl⟩
theorem fX6_mark : MFv mX6_mark 2 := ⟨⟨aw_in 698 (by decide +kernel) rfl, aw_in 80 (by decide +kernel) rfl, ⟨by decide +kernel, by decide +kernel, by decide +kernel⟩, by decide⟩, aw_in 696 (by decide +kernel) rfl, aw_in 697 (by decide +kernel) rfl⟩
theorem fX6_greatestStakes : MFv mX6_greatestStakes 2 := ⟨⟨aw_in 719 (by decide +kernel) rfl, aw_in 80 (by decide +kernel) rfl, ⟨by decide +kernel, by decide +kernel, by decide +kernel⟩, by decide⟩, aw_in 718 (by decide +kernel) rfl, aw_in 33 (by decide +kernel) rfl⟩
theorem fX6_span : MFv mX6_span 3 := ⟨⟨aw_in 715 (by decide +kernel) rfl, aw_in 80 (by decide +kernel) rfl, ⟨by decide +kernel, by decide +kernel, by decide +kernel⟩, by decide⟩, aw_in 713 (by decide +kernel) rfl, aw_in 714 (by decide +kernel) rfl⟩
theorem fX6_wordsWithin : MFv mX6_wordsWithin 2 := ⟨⟨aw_in 727 (by decide +kernel) rfl, aw_in 80 (by decide +kernel) rfl, ⟨by decide +kernel, by decide +kernel, by decide +kernel⟩, by decide⟩, aw_in 726 (by decide +kernel) rfl, aw_in 34 (by decide +kernel) rfl⟩
theorem fX6_ring : MFv mX6_ring 2 := ⟨⟨aw_in 723 (by decide +kernel) rfl, aw_in 80 (by decide +kernel) rfl, ⟨by decide +kernel, by decide +kernel, by decide +kernel⟩, by decide⟩, aw_in 721 (by decide +kernel) rfl, aw_in 722 (by decide +kernel) rfl⟩
theorem fX6_choose : MFs mX6_choose 2 := ⟨⟨aw_in 739 (by decide +kernel) rfl, aw_in 80 (by decide +kernel) rfl, ⟨by decide +kernel, by decide +kernel, by decide +kernel⟩, by decide⟩, aw_in 738 (by decide +kernel) rfl⟩
theorem fX6_waysOf : MFv mX6_waysOf 2 := ⟨⟨aw_in 736 (by decide +kernel) rfl, aw_in 80 (by decide +kernel) rfl, ⟨by decide +kernel, by decide +kernel, by decide +kernel⟩, by decide⟩, aw_in 735 (by decide +kernel) rfl, aw_in 35 (by decide +kernel) rfl⟩
theorem fX6_odds : MFv mX6_odds 2 := ⟨⟨aw_in 731 (by decide +kernel) rfl, aw_in 80 (by decide +kernel) rfl, ⟨by decide +kernel, by decide +kernel, by decide +kernel⟩, by decide⟩, aw_in 729 (by decide +kernel) rfl, aw_in 730 (by decide +kernel) rfl⟩
theorem fX6_oddest : MFv mX6_oddest 1 := ⟨⟨aw_in 743 (by decide +kernel) rfl, aw_in 80 (by decide +kernel) rfl, ⟨by decide +kernel, by decide +kernel, by decide +kernel⟩, by decide⟩, aw_in 741 (by decide +kernel) rfl, aw_in 742 (by decide +kernel) rfl⟩
theorem fX6_isOffer : MFs mX6_isOffer 2 := ⟨⟨aw_in 751 (by decide +kernel) rfl, aw_in 80 (by decide +kernel) rfl, ⟨by decide +kernel, by decide +kernel, by decide +kernel⟩, by decide⟩, aw_in 750 (by decide +kernel) rfl⟩
theorem fX6_sellingNames : MFv mX6_sellingNames 0 := ⟨⟨aw_in 755 (by decide +kernel) rfl, aw_in 80 (by decide +kernel) rfl, ⟨by decide +kernel, by decide +kernel, by decide +kernel⟩, by decide⟩, aw_in 754 (by decide +kernel) rfl, aw_in 36 (by decide +kernel) rfl⟩
theorem fX6_boughtRoom : MFv mX6_boughtRoom 1 := ⟨⟨aw_in 760 (by decide +kernel) rfl, aw_in 80 (by decide +kernel) rfl, ⟨by decide +kernel, by decide +kernel, by decide +kernel⟩, by decide⟩, aw_in 759 (by decide +kernel) rfl, aw_in 37 (by decide +kernel) rfl⟩
theorem fX6_gainBy : MFv mX6_gainBy 3 := ⟨⟨aw_in 764 (by decide +kernel) rfl, aw_in 80 (by decide +kernel) rfl, ⟨by decide +kernel, by decide +kernel, by decide +kernel⟩, by decide⟩, aw_in 763 (by decide +kernel) rfl, aw_in 38 (by decide +kernel) rfl⟩
theorem fX6_gain : MFv mX6_gain 3 := ⟨⟨aw_in 748 (by decide +kernel) rfl, aw_in 80 (by decide +kernel) rfl, ⟨by decide +kernel, by decide +kernel, by decide +kernel⟩, by decide⟩, aw_in 746 (by decide +kernel) rfl, aw_in 747 (by decide +kernel) rfl⟩
theorem fX6_best : MFv mX6_best 3 := ⟨⟨aw_in 772 (by decide +kernel) rfl, aw_in 80 (by decide +kernel) rfl, ⟨by decide +kernel, by decide +kernel, by decide +kernel⟩, by decide⟩, aw_in 770 (by decide +kernel) rfl, aw_in 771 (by decide +kernel) rfl⟩
theorem fX6_isSheet : MFs mX6_isSheet 1 := ⟨⟨aw_in 779 (by decide +kernel) rfl, aw_in 80 (by decide +kernel) rfl, ⟨by decide +kernel, by decide +kernel, by decide +kernel⟩, by decide⟩, aw_in 778 (by decide +kernel) rfl⟩
theorem fX6_isLane : MFs mX6_isLane 1 := ⟨⟨aw_in 782 (by decide +kernel) rfl, aw_in 80 (by decide +kernel) rfl, ⟨by decide +kernel, by decide +kernel, by decide +kernel⟩, by decide⟩, aw_in 781 (by decide +kernel) rfl⟩
theorem fX6_sheet : MFv mX6_sheet 3 := ⟨⟨aw_in 776 (by decide +kernel) rfl, aw_in 80 (by decide +kernel) rfl, ⟨by decide +kernel, by decide +kernel, by decide +kernel⟩, by decide⟩, aw_in 774 (by decide +kernel) rfl, aw_in 775 (by decide +kernel) rfl⟩
theorem fX6_lay : MFv mX6_lay 3 := ⟨⟨aw_in 791 (by decide +kernel) rfl, aw_in 80 (by decide +kernel) rfl, ⟨by decide +kernel, by decide +kernel, by decide +kernel⟩, by decide⟩, aw_in 789 (by decide +kernel) rfl, aw_in 790 (by decide +kernel) rfl⟩
theorem fX6_read : MFv mX6_read 4 := ⟨⟨aw_in 808 (by decide +kernel) rfl, aw_in 80 (by decide +kernel) rfl, ⟨by decide +kernel, by decide +kernel, by decide +kernel⟩, by decide⟩, aw_in 806 (by decide +kernel) rfl, aw_in 807 (by decide +kernel) rfl⟩
theorem fX6_lost : MFv mX6_lost 0 := ⟨⟨aw_in 821 (by decide +kernel) rfl, aw_in 80 (by decide +kernel) rfl, ⟨by decide +kernel, by decide +kernel, by decide +kernel⟩, by decide⟩, aw_in 819 (by decide +kernel) rfl, aw_in 820 (by decide +kernel) rfl⟩
theorem fX6_countTrue : MFv mX6_countTrue 1 := ⟨⟨aw_in 829 (by decide +kernel) rfl, aw_in 80 (by decide +kernel) rfl, ⟨by decide +kernel, by decide +kernel, by decide +kernel⟩, by decide⟩, aw_in 828 (by decide +kernel) rfl, aw_in 39 (by decide +kernel) rfl⟩
theorem fX6_countFined : MFv mX6_countFined 0 := ⟨⟨aw_in 833 (by decide +kernel) rfl, aw_in 80 (by decide +kernel) rfl, ⟨by decide +kernel, by decide +kernel, by decide +kernel⟩, by decide⟩, aw_in 832 (by decide +kernel) rfl, aw_in 40 (by decide +kernel) rfl⟩
theorem fX6_count : MFv mX6_count 1 := ⟨⟨aw_in 825 (by decide +kernel) rfl, aw_in 80 (by decide +kernel) rfl, ⟨by decide +kernel, by decide +kernel, by decide +kernel⟩, by decide⟩, aw_in 823 (by decide +kernel) rfl, aw_in 824 (by decide +kernel) rfl⟩
theorem fX7_firstRules : MFv mX7_firstRules 0 := ⟨⟨aw_in 850 (by decide +kernel) rfl, aw_in 88 (by decide +kernel) rfl, ⟨by decide +kernel, by decide +kernel, by decide +kernel⟩, by decide⟩, aw_in 849 (by decide +kernel) rfl, aw_in 41 (by decide +kernel) rfl⟩
theorem fX7_keepRules : MFv mX7_keepRules 0 := ⟨⟨aw_in 854 (by decide +kernel) rfl, aw_in 88 (by decide +kernel) rfl, ⟨by decide +kernel, by decide +kernel, by decide +kernel⟩, by decide⟩, aw_in 853 (by decide +kernel) rfl, aw_in 42 (by decide +kernel) rfl⟩
theorem fX7_in : MFs mX7_in 3 := ⟨⟨aw_in 995 (by decide +kernel) rfl, aw_in 88 (by decide +kernel) rfl, ⟨by decide +kernel, by decide +kernel, by decide +kernel⟩, by decide⟩, aw_in 994 (by decide +kernel) rfl⟩
theorem fX7_bits : MFs mX7_bits 1 := ⟨⟨aw_in 1056 (by decide +kernel) rfl, aw_in 88 (by decide +kernel) rfl, ⟨by decide +kernel, by decide +kernel, by decide +kernel⟩, by decide⟩, aw_in 1055 (by decide +kernel) rfl⟩
theorem fX7_common : MFs mX7_common 2 := ⟨⟨aw_in 1224 (by decide +kernel) rfl, aw_in 88 (by decide +kernel) rfl, ⟨by decide +kernel, by decide +kernel, by decide +kernel⟩, by decide⟩, aw_in 1223 (by decide +kernel) rfl⟩
theorem fX7_isName : MFv mX7_isName 1 := ⟨⟨aw_in 1003 (by decide +kernel) rfl, aw_in 88 (by decide +kernel) rfl, ⟨by decide +kernel, by decide +kernel, by decide +kernel⟩, by decide⟩, aw_in 1002 (by decide +kernel) rfl, aw_in 43 (by decide +kernel) rfl⟩
theorem fX7_isFined : MFv mX7_isFined 1 := ⟨⟨aw_in 1036 (by decide +kernel) rfl, aw_in 88 (by decide +kernel) rfl, ⟨by decide +kernel, by decide +kernel, by decide +kernel⟩, by decide⟩, aw_in 1035 (by decide +kernel) rfl, aw_in 47 (by decide +kernel) rfl⟩
theorem fX7_name : MFv mX7_name 1 := ⟨⟨aw_in 991 (by decide +kernel) rfl, aw_in 88 (by decide +kernel) rfl, ⟨by decide +kernel, by decide +kernel, by decide +kernel⟩, by decide⟩, aw_in 989 (by decide +kernel) rfl, aw_in 990 (by decide +kernel) rfl⟩
theorem fX7_seed : MFv mX7_seed 2 := ⟨⟨aw_in 999 (by decide +kernel) rfl, aw_in 88 (by decide +kernel) rfl, ⟨by decide +kernel, by decide +kernel, by decide +kernel⟩, by decide⟩, aw_in 997 (by decide +kernel) rfl, aw_in 998 (by decide +kernel) rfl⟩
theorem fX7_pledged : MFv mX7_pledged 1 := ⟨⟨aw_in 1011 (by decide +kernel) rfl, aw_in 88 (by decide +kernel) rfl, ⟨by decide +kernel, by decide +kernel, by decide +kernel⟩, by decide⟩, aw_in 1010 (by decide +kernel) rfl, aw_in 44 (by decide +kernel) rfl⟩
theorem fX7_pledge : MFv mX7_pledge 2 := ⟨⟨aw_in 1007 (by decide +kernel) rfl, aw_in 88 (by decide +kernel) rfl, ⟨by decide +kernel, by decide +kernel, by decide +kernel⟩, by decide⟩, aw_in 1005 (by decide +kernel) rfl, aw_in 1006 (by decide +kernel) rfl⟩
theorem fX7_tie : MFv mX7_tie 4 := ⟨⟨aw_in 1015 (by decide +kernel) rfl, aw_in 88 (by decide +kernel) rfl, ⟨by decide +kernel, by decide +kernel, by decide +kernel⟩, by decide⟩, aw_in 1013 (by decide +kernel) rfl, aw_in 1014 (by decide +kernel) rfl⟩
theorem fX7_faded : MFs mX7_faded 3 := ⟨⟨aw_in 1032 (by decide +kernel) rfl, aw_in 88 (by decide +kernel) rfl, ⟨by decide +kernel, by decide +kernel, by decide +kernel⟩, by decide⟩, aw_in 1031 (by decide +kernel) rfl⟩
theorem fX7_roomOf : MFv mX7_roomOf 1 := ⟨⟨aw_in 1029 (by decide +kernel) rfl, aw_in 88 (by decide +kernel) rfl, ⟨by decide +kernel, by decide +kernel, by decide +kernel⟩, by decide⟩, aw_in 1028 (by decide +kernel) rfl, aw_in 46 (by decide +kernel) rfl⟩
theorem fX7_isTie : MFv mX7_isTie 1 := ⟨⟨aw_in 1024 (by decide +kernel) rfl, aw_in 88 (by decide +kernel) rfl, ⟨by decide +kernel, by decide +kernel, by decide +kernel⟩, by decide⟩, aw_in 1023 (by decide +kernel) rfl, aw_in 45 (by decide +kernel) rfl⟩
theorem fX7_tieOf : MFv mX7_tieOf 2 := ⟨⟨aw_in 1020 (by decide +kernel) rfl, aw_in 88 (by decide +kernel) rfl, ⟨by decide +kernel, by decide +kernel, by decide +kernel⟩, by decide⟩, aw_in 1018 (by decide +kernel) rfl, aw_in 1019 (by decide +kernel) rfl⟩
theorem fX7_renew : MFv mX7_renew 1 := ⟨⟨aw_in 1040 (by decide +kernel) rfl, aw_in 88 (by decide +kernel) rfl, ⟨by decide +kernel, by decide +kernel, by decide +kernel⟩, by decide⟩, aw_in 1038 (by decide +kernel) rfl, aw_in 1039 (by decide +kernel) rfl⟩
theorem fX7_given : MFv mX7_given 1 := ⟨⟨aw_in 1049 (by decide +kernel) rfl, aw_in 88 (by decide +kernel) rfl, ⟨by decide +kernel, by decide +kernel, by decide +kernel⟩, by decide⟩, aw_in 1048 (by decide +kernel) rfl, aw_in 48 (by decide +kernel) rfl⟩
theorem fX7_of : MFv mX7_of 2 := ⟨⟨aw_in 1044 (by decide +kernel) rfl, aw_in 88 (by decide +kernel) rfl, ⟨by decide +kernel, by decide +kernel, by decide +kernel⟩, by decide⟩, aw_in 1042 (by decide +kernel) rfl, aw_in 1043 (by decide +kernel) rfl⟩
theorem fX7_made : MFv mX7_made 1 := ⟨⟨aw_in 1053 (by decide +kernel) rfl, aw_in 88 (by decide +kernel) rfl, ⟨by decide +kernel, by decide +kernel, by decide +kernel⟩, by decide⟩, aw_in 1051 (by decide +kernel) rfl, aw_in 1052 (by decide +kernel) rfl⟩
theorem fX7_day : MFv mX7_day 1 := ⟨⟨aw_in 1060 (by decide +kernel) rfl, aw_in 88 (by decide +kernel) rfl, ⟨by decide +kernel, by decide +kernel, by decide +kernel⟩, by decide⟩, aw_in 1058 (by decide +kernel) rfl, aw_in 1059 (by decide +kernel) rfl⟩
theorem fX7_feed : MFv mX7_feed 1 := ⟨⟨aw_in 1065 (by decide +kernel) rfl, aw_in 88 (by decide +kernel) rfl, ⟨by decide +kernel, by decide +kernel, by decide +kernel⟩, by decide⟩, aw_in 1063 (by decide +kernel) rfl, aw_in 1064 (by decide +kernel) rfl⟩
theorem fX7_end : MFv mX7_end 1 := ⟨⟨aw_in 1070 (by decide +kernel) rfl, aw_in 88 (by decide +kernel) rfl, ⟨by decide +kernel, by decide +kernel, by decide +kernel⟩, by decide⟩, aw_in 1068 (by decide +kernel) rfl, aw_in 1069 (by decide +kernel) rfl⟩
theorem fX7_wants : MFv mX7_wants 2 := ⟨⟨aw_in 1096 (by decide +kernel) rfl, aw_in 88 (by decide +kernel) rfl, ⟨by decide +kernel, by decide +kernel, by decide +kernel⟩, by decide⟩, aw_in 1095 (by decide +kernel) rfl, aw_in 53 (by decide +kernel) rfl⟩
theorem fX7_look : MFv mX7_look 1 := ⟨⟨aw_in 1082 (by decide +kernel) rfl, aw_in 88 (by decide +kernel) rfl, ⟨by decide +kernel, by decide +kernel, by decide +kernel⟩, by decide⟩, aw_in 1081 (by decide +kernel) rfl, aw_in 50 (by decide +kernel) rfl⟩
theorem fX7_is : MFv mX7_is 5 := ⟨⟨aw_in 1092 (by decide +kernel) rfl, aw_in 88 (by decide +kernel) rfl, ⟨by decide +kernel, by decide +kernel, by decide +kernel⟩, by decide⟩, aw_in 1091 (by decide +kernel) rfl, aw_in 52 (by decide +kernel) rfl⟩
theorem fX7_nameNow : MFv mX7_nameNow 0 := ⟨⟨aw_in 1088 (by decide +kernel) rfl, aw_in 88 (by decide +kernel) rfl, ⟨by decide +kernel, by decide +kernel, by decide +kernel⟩, by decide⟩, aw_in 1087 (by decide +kernel) rfl, aw_in 51 (by decide +kernel) rfl⟩
theorem fX7_next : MFv mX7_next 0 := ⟨⟨aw_in 1078 (by decide +kernel) rfl, aw_in 88 (by decide +kernel) rfl, ⟨by decide +kernel, by decide +kernel, by decide +kernel⟩, by decide⟩, aw_in 1077 (by decide +kernel) rfl, aw_in 49 (by decide +kernel) rfl⟩
theorem fX7_least : MFs mX7_least 1 := ⟨⟨aw_in 1105 (by decide +kernel) rfl, aw_in 88 (by decide +kernel) rfl, ⟨by decide +kernel, by decide +kernel, by decide +kernel⟩, by decide⟩, aw_in 1104 (by decide +kernel) rfl⟩
theorem fX7_most : MFs mX7_most 1 := ⟨⟨aw_in 1108 (by decide +kernel) rfl, aw_in 88 (by decide +kernel) rfl, ⟨by decide +kernel, by decide +kernel, by decide +kernel⟩, by decide⟩, aw_in 1107 (by decide +kernel) rfl⟩
theorem fX7_readLine : MFv mX7_readLine 0 := ⟨⟨aw_in 1102 (by decide +kernel) rfl, aw_in 88 (by decide +kernel) rfl, ⟨by decide +kernel, by decide +kernel, by decide +kernel⟩, by decide⟩, aw_in 1101 (by decide +kernel) rfl, aw_in 54 (by decide +kernel) rfl⟩
theorem fX7_rules : MFv mX7_rules 0 := ⟨⟨aw_in 1074 (by decide +kernel) rfl, aw_in 88 (by decide +kernel) rfl, ⟨by decide +kernel, by decide +kernel, by decide +kernel⟩, by decide⟩, aw_in 1072 (by decide +kernel) rfl, aw_in 1073 (by decide +kernel) rfl⟩
theorem fX7_fault : MFv mX7_fault 0 := ⟨⟨aw_in 1112 (by decide +kernel) rfl, aw_in 88 (by decide +kernel) rfl, ⟨by decide +kernel, by decide +kernel, by decide +kernel⟩, by decide⟩, aw_in 1110 (by decide +kernel) rfl, aw_in 1111 (by decide +kernel) rfl⟩
theorem fX7_rule : MFv mX7_rule 1 := ⟨⟨aw_in 1116 (by decide +kernel) rfl, aw_in 88 (by decide +kernel) rfl, ⟨by decide +kernel, by decide +kernel, by decide +kernel⟩, by decide⟩, aw_in 1114 (by decide +kernel) rfl, aw_in 1115 (by decide +kernel) rfl⟩
theorem fX7_begins : MFv mX7_begins 0 := ⟨⟨aw_in 1129 (by decide +kernel) rfl, aw_in 88 (by decide +kernel) rfl, ⟨by decide +kernel, by decide +kernel, by decide +kernel⟩, by decide⟩, aw_in 1128 (by decide +kernel) rfl, aw_in 56 (by decide +kernel) rfl⟩
theorem fX7_reaches : MFv mX7_reaches 0 := ⟨⟨aw_in 1138 (by decide +kernel) rfl, aw_in 88 (by decide +kernel) rfl, ⟨by decide +kernel, by decide +kernel, by decide +kernel⟩, by decide⟩, aw_in 1137 (by decide +kernel) rfl, aw_in 58 (by decide +kernel) rfl⟩
theorem fX7_flows : MFv mX7_flows 0 := ⟨⟨aw_in 1134 (by decide +kernel) rfl, aw_in 88 (by decide +kernel) rfl, ⟨by decide +kernel, by decide +kernel, by decide +kernel⟩, by decide⟩, aw_in 1133 (by decide +kernel) rfl, aw_in 57 (by decide +kernel) rfl⟩
theorem fX7_trustOf : MFv mX7_trustOf 1 := ⟨⟨aw_in 1125 (by decide +kernel) rfl, aw_in 88 (by decide +kernel) rfl, ⟨by decide +kernel, by decide +kernel, by decide +kernel⟩, by decide⟩, aw_in 1124 (by decide +kernel) rfl, aw_in 55 (by decide +kernel) rfl⟩
theorem fX7_areNames : MFv mX7_areNames 1 := ⟨⟨aw_in 1146 (by decide +kernel) rfl, aw_in 88 (by decide +kernel) rfl, ⟨by decide +kernel, by decide +kernel, by decide +kernel⟩, by decide⟩, aw_in 1145 (by decide +kernel) rfl, aw_in 59 (by decide +kernel) rfl⟩
theorem fX7_trust : MFv mX7_trust 1 := ⟨⟨aw_in 1121 (by decide +kernel) rfl, aw_in 88 (by decide +kernel) rfl, ⟨by decide +kernel, by decide +kernel, by decide +kernel⟩, by decide⟩, aw_in 1119 (by decide +kernel) rfl, aw_in 1120 (by decide +kernel) rfl⟩
theorem fX7_heap : MFv mX7_heap 1 := ⟨⟨aw_in 1142 (by decide +kernel) rfl, aw_in 88 (by decide +kernel) rfl, ⟨by decide +kernel, by decide +kernel, by decide +kernel⟩, by decide⟩, aw_in 1140 (by decide +kernel) rfl, aw_in 1141 (by decide +kernel) rfl⟩
theorem fX7_cut : MFv mX7_cut 2 := ⟨⟨aw_in 1150 (by decide +kernel) rfl, aw_in 88 (by decide +kernel) rfl, ⟨by decide +kernel, by decide +kernel, by decide +kernel⟩, by decide⟩, aw_in 1148 (by decide +kernel) rfl, aw_in 1149 (by decide +kernel) rfl⟩
theorem fX7_isPlain : MFv mX7_isPlain 1 := ⟨⟨aw_in 1159 (by decide +kernel) rfl, aw_in 88 (by decide +kernel) rfl, ⟨by decide +kernel, by decide +kernel, by decide +kernel⟩, by decide⟩, aw_in 1158 (by decide +kernel) rfl, aw_in 60 (by decide +kernel) rfl⟩
theorem fX7_low : MFv mX7_low 1 := ⟨⟨aw_in 1155 (by decide +kernel) rfl, aw_in 88 (by decide +kernel) rfl, ⟨by decide +kernel, by decide +kernel, by decide +kernel⟩, by decide⟩, aw_in 1153 (by decide +kernel) rfl, aw_in 1154 (by decide +kernel) rfl⟩
theorem fX7_twins : MFv mX7_twins 1 := ⟨⟨aw_in 1163 (by decide +kernel) rfl, aw_in 88 (by decide +kernel) rfl, ⟨by decide +kernel, by decide +kernel, by decide +kernel⟩, by decide⟩, aw_in 1161 (by decide +kernel) rfl, aw_in 1162 (by decide +kernel) rfl⟩
theorem fX7_isWord : MFv mX7_isWord 4 := ⟨⟨aw_in 1171 (by decide +kernel) rfl, aw_in 88 (by decide +kernel) rfl, ⟨by decide +kernel, by decide +kernel, by decide +kernel⟩, by decide⟩, aw_in 1170 (by decide +kernel) rfl, aw_in 61 (by decide +kernel) rfl⟩
theorem fX7_says : MFv mX7_says 4 := ⟨⟨aw_in 1177 (by decide +kernel) rfl, aw_in 88 (by decide +kernel) rfl, ⟨by decide +kernel, by decide +kernel, by decide +kernel⟩, by decide⟩, aw_in 1176 (by decide +kernel) rfl, aw_in 62 (by decide +kernel) rfl⟩
theorem fX7_word : MFv mX7_word 4 := ⟨⟨aw_in 1167 (by decide +kernel) rfl, aw_in 88 (by decide +kernel) rfl, ⟨by decide +kernel, by decide +kernel, by decide +kernel⟩, by decide⟩, aw_in 1165 (by decide +kernel) rfl, aw_in 1166 (by decide +kernel) rfl⟩
theorem fX7_isFirst : MFv mX7_isFirst 1 := ⟨⟨aw_in 1189 (by decide +kernel) rfl, aw_in 88 (by decide +kernel) rfl, ⟨by decide +kernel, by decide +kernel, by decide +kernel⟩, by decide⟩, aw_in 1188 (by decide +kernel) rfl, aw_in 64 (by decide +kernel) rfl⟩
theorem fX7_counts : MFv mX7_counts 1 := ⟨⟨aw_in 1185 (by decide +kernel) rfl, aw_in 88 (by decide +kernel) rfl, ⟨by decide +kernel, by decide +kernel, by decide +kernel⟩, by decide⟩, aw_in 1184 (by decide +kernel) rfl, aw_in 63 (by decide +kernel) rfl⟩
theorem fX7_wordOf : MFv mX7_wordOf 2 := ⟨⟨aw_in 1181 (by decide +kernel) rfl, aw_in 88 (by decide +kernel) rfl, ⟨by decide +kernel, by decide +kernel, by decide +kernel⟩, by decide⟩, aw_in 1179 (by decide +kernel) rfl, aw_in 1180 (by decide +kernel) rfl⟩
theorem fX7_wordBy : MFv mX7_wordBy 2 := ⟨⟨aw_in 1201 (by decide +kernel) rfl, aw_in 88 (by decide +kernel) rfl, ⟨by decide +kernel, by decide +kernel, by decide +kernel⟩, by decide⟩, aw_in 1200 (by decide +kernel) rfl, aw_in 66 (by decide +kernel) rfl⟩
theorem fX7_sayersOf : MFv mX7_sayersOf 1 := ⟨⟨aw_in 1197 (by decide +kernel) rfl, aw_in 88 (by decide +kernel) rfl, ⟨by decide +kernel, by decide +kernel, by decide +kernel⟩, by decide⟩, aw_in 1196 (by decide +kernel) rfl, aw_in 65 (by decide +kernel) rfl⟩
theorem fX7_weightOf : MFv mX7_weightOf 2 := ⟨⟨aw_in 1205 (by decide +kernel) rfl, aw_in 88 (by decide +kernel) rfl, ⟨by decide +kernel, by decide +kernel, by decide +kernel⟩, by decide⟩, aw_in 1204 (by decide +kernel) rfl, aw_in 67 (by decide +kernel) rfl⟩
theorem fX7_weight : MFv mX7_weight 2 := ⟨⟨aw_in 1193 (by decide +kernel) rfl, aw_in 88 (by decide +kernel) rfl, ⟨by decide +kernel, by decide +kernel, by decide +kernel⟩, by decide⟩, aw_in 1191 (by decide +kernel) rfl, aw_in 1192 (by decide +kernel) rfl⟩
theorem fX7_sayers : MFv mX7_sayers 1 := ⟨⟨aw_in 1209 (by decide +kernel) rfl, aw_in 88 (by decide +kernel) rfl, ⟨by decide +kernel, by decide +kernel, by decide +kernel⟩, by decide⟩, aw_in 1207 (by decide +kernel) rfl, aw_in 1208 (by decide +kernel) rfl⟩
theorem fX7_lists : MFv mX7_lists 1 := ⟨⟨aw_in 1217 (by decide +kernel) rfl, aw_in 88 (by decide +kernel) rfl, ⟨by decide +kernel, by decide +kernel, by decide +kernel⟩, by decide⟩, aw_in 1216 (by decide +kernel) rfl, aw_in 68 (by decide +kernel) rfl⟩
theorem fX7_fraction : MFv mX7_fraction 2 := ⟨⟨aw_in 1221 (by decide +kernel) rfl, aw_in 88 (by decide +kernel) rfl, ⟨by decide +kernel, by decide +kernel, by decide +kernel⟩, by decide⟩, aw_in 1220 (by decide +kernel) rfl, aw_in 69 (by decide +kernel) rfl⟩
theorem fX7_mark : MFv mX7_mark 2 := ⟨⟨aw_in 1213 (by decide +kernel) rfl, aw_in 88 (by decide +kernel) rfl, ⟨by decide +kernel, by decide +kernel, by decide +kernel⟩, by decide⟩, aw_in 1211 (by decide +kernel) rfl, aw_in 1212 (by decide +kernel) rfl⟩
theorem fX7_moved : MFv mX7_moved 2 := ⟨⟨aw_in 1232 (by decide +kernel) rfl, aw_in 88 (by decide +kernel) rfl, ⟨by decide +kernel, by decide +kernel, by decide +kernel⟩, by decide⟩, aw_in 1231 (by decide +kernel) rfl, aw_in 70 (by decide +kernel) rfl⟩
theorem fX7_span : MFv mX7_span 3 := ⟨⟨aw_in 1228 (by decide +kernel) rfl, aw_in 88 (by decide +kernel) rfl, ⟨by decide +kernel, by decide +kernel, by decide +kernel⟩, by decide⟩, aw_in 1226 (by decide +kernel) rfl, aw_in 1227 (by decide +kernel) rfl⟩
theorem fX7_isGood : MFv mX7_isGood 1 := ⟨⟨aw_in 1248 (by decide +kernel) rfl, aw_in 88 (by decide +kernel) rfl, ⟨by decide +kernel, by decide +kernel, by decide +kernel⟩, by decide⟩, aw_in 1247 (by decide +kernel) rfl, aw_in 73 (by decide +kernel) rfl⟩
theorem fX7_isBetween : MFv mX7_isBetween 2 := ⟨⟨aw_in 1244 (by decide +kernel) rfl, aw_in 88 (by decide +kernel) rfl, ⟨by decide +kernel, by decide +kernel, by decide +kernel⟩, by decide⟩, aw_in 1243 (by decide +kernel) rfl, aw_in 72 (by decide +kernel) rfl⟩
theorem fX7_ringOf : MFv mX7_ringOf 2 := ⟨⟨aw_in 1240 (by decide +kernel) rfl, aw_in 88 (by decide +kernel) rfl, ⟨by decide +kernel, by decide +kernel, by decide +kernel⟩, by decide⟩, aw_in 1239 (by decide +kernel) rfl, aw_in 71 (by decide +kernel) rfl⟩
theorem fX7_ring : MFv mX7_ring 2 := ⟨⟨aw_in 1236 (by decide +kernel) rfl, aw_in 88 (by decide +kernel) rfl, ⟨by decide +kernel, by decide +kernel, by decide +kernel⟩, by decide⟩, aw_in 1234 (by decide +kernel) rfl, aw_in 1235 (by decide +kernel) rfl⟩
theorem fX7_ways : MFs mX7_ways 2 := ⟨⟨aw_in 1260 (by decide +kernel) rfl, aw_in 88 (by decide +kernel) rfl, ⟨by decide +kernel, by decide +kernel, by decide +kernel⟩, by decide⟩, aw_in 1259 (by decide +kernel) rfl⟩
theorem fX7_findOdds : MFv mX7_findOdds 1 := ⟨⟨aw_in 1257 (by decide +kernel) rfl, aw_in 88 (by decide +kernel) rfl, ⟨by decide +kernel, by decide +kernel, by decide +kernel⟩, by decide⟩, aw_in 1256 (by decide +kernel) rfl, aw_in 74 (by decide +kernel) rfl⟩
theorem fX7_odds : MFv mX7_odds 2 := ⟨⟨aw_in 1252 (by decide +kernel) rfl, aw_in 88 (by decide +kernel) rfl, ⟨by decide +kernel, by decide +kernel, by decide +kernel⟩, by decide⟩, aw_in 1250 (by decide +kernel) rfl, aw_in 1251 (by decide +kernel) rfl⟩
theorem fX7_oddest : MFv mX7_oddest 1 := ⟨⟨aw_in 1264 (by decide +kernel) rfl, aw_in 88 (by decide +kernel) rfl, ⟨by decide +kernel, by decide +kernel, by decide +kernel⟩, by decide⟩, aw_in 1262 (by decide +kernel) rfl, aw_in 1263 (by decide +kernel) rfl⟩
theorem fX7_sells : MFv mX7_sells 1 := ⟨⟨aw_in 1277 (by decide +kernel) rfl, aw_in 88 (by decide +kernel) rfl, ⟨by decide +kernel, by decide +kernel, by decide +kernel⟩, by decide⟩, aw_in 1276 (by decide +kernel) rfl, aw_in 76 (by decide +kernel) rfl⟩
theorem fX7_gainOf : MFv mX7_gainOf 3 := ⟨⟨aw_in 1282 (by decide +kernel) rfl, aw_in 88 (by decide +kernel) rfl, ⟨by decide +kernel, by decide +kernel, by decide +kernel⟩, by decide⟩, aw_in 1281 (by decide +kernel) rfl, aw_in 77 (by decide +kernel) rfl⟩
theorem fX7_sellers : MFv mX7_sellers 0 := ⟨⟨aw_in 1273 (by decide +kernel) rfl, aw_in 88 (by decide +kernel) rfl, ⟨by decide +kernel, by decide +kernel, by decide +kernel⟩, by decide⟩, aw_in 1272 (by decide +kernel) rfl, aw_in 75 (by decide +kernel) rfl⟩
theorem fX7_gain : MFv mX7_gain 3 := ⟨⟨aw_in 1269 (by decide +kernel) rfl, aw_in 88 (by decide +kernel) rfl, ⟨by decide +kernel, by decide +kernel, by decide +kernel⟩, by decide⟩, aw_in 1267 (by decide +kernel) rfl, aw_in 1268 (by decide +kernel) rfl⟩
theorem fX7_best : MFv mX7_best 3 := ⟨⟨aw_in 1286 (by decide +kernel) rfl, aw_in 88 (by decide +kernel) rfl, ⟨by decide +kernel, by decide +kernel, by decide +kernel⟩, by decide⟩, aw_in 1284 (by decide +kernel) rfl, aw_in 1285 (by decide +kernel) rfl⟩
theorem fX7_isSheet : MFs mX7_isSheet 2 := ⟨⟨aw_in 1293 (by decide +kernel) rfl, aw_in 88 (by decide +kernel) rfl, ⟨by decide +kernel, by decide +kernel, by decide +kernel⟩, by decide⟩, aw_in 1292 (by decide +kernel) rfl⟩
theorem fX7_sheet : MFv mX7_sheet 3 := ⟨⟨aw_in 1290 (by decide +kernel) rfl, aw_in 88 (by decide +kernel) rfl, ⟨by decide +kernel, by decide +kernel, by decide +kernel⟩, by decide⟩, aw_in 1288 (by decide +kernel) rfl, aw_in 1289 (by decide +kernel) rfl⟩
theorem fX7_lay : MFv mX7_lay 3 := ⟨⟨aw_in 1297 (by decide +kernel) rfl, aw_in 88 (by decide +kernel) rfl, ⟨by decide +kernel, by decide +kernel, by decide +kernel⟩, by decide⟩, aw_in 1295 (by decide +kernel) rfl, aw_in 1296 (by decide +kernel) rfl⟩
theorem fX7_refuses : MFv mX7_refuses 3 := ⟨⟨aw_in 1306 (by decide +kernel) rfl, aw_in 88 (by decide +kernel) rfl, ⟨by decide +kernel, by decide +kernel, by decide +kernel⟩, by decide⟩, aw_in 1305 (by decide +kernel) rfl, aw_in 78 (by decide +kernel) rfl⟩
theorem fX7_read : MFv mX7_read 4 := ⟨⟨aw_in 1301 (by decide +kernel) rfl, aw_in 88 (by decide +kernel) rfl, ⟨by decide +kernel, by decide +kernel, by decide +kernel⟩, by decide⟩, aw_in 1299 (by decide +kernel) rfl, aw_in 1300 (by decide +kernel) rfl⟩
theorem fX7_lost : MFv mX7_lost 0 := ⟨⟨aw_in 1310 (by decide +kernel) rfl, aw_in 88 (by decide +kernel) rfl, ⟨by decide +kernel, by decide +kernel, by decide +kernel⟩, by decide⟩, aw_in 1308 (by decide +kernel) rfl, aw_in 1309 (by decide +kernel) rfl⟩
theorem fX7_count : MFv mX7_count 1 := ⟨⟨aw_in 1314 (by decide +kernel) rfl, aw_in 88 (by decide +kernel) rfl, ⟨by decide +kernel, by decide +kernel, by decide +kernel⟩, by decide⟩, aw_in 1312 (by decide +kernel) rfl, aw_in 1313 (by decide +kernel) rfl⟩
theorem fJ9_max_7cf53 : MFs mJ9_max_7cf53 2 := ⟨⟨aw_in 395 (by decide +kernel) rfl, aw_in 89 (by decide +kernel) rfl, ⟨by decide +kernel, by decide +kernel, by decide +kernel⟩, by decide⟩, aw_in 394 (by decide +kernel) rfl⟩
theorem fJ9_max_f86c9 : MFs mJ9_max_f86c9 2 := ⟨⟨aw_in 711 (by decide +kernel) rfl, aw_in 89 (by decide +kernel) rfl, ⟨by decide +kernel, by decide +kernel, by decide +kernel⟩, by decide⟩, aw_in 710 (by decide +kernel) rfl⟩
theorem fJ9_min_7cf53 : MFs mJ9_min_7cf53 2 := ⟨⟨aw_in 609 (by decide +kernel) rfl, aw_in 89 (by decide +kernel) rfl, ⟨by decide +kernel, by decide +kernel, by decide +kernel⟩, by decide⟩, aw_in 608 (by decide +kernel) rfl⟩
theorem lL_9 : ML RL 9 mX6_init := aw_in 98 (by decide +kernel) rfl
-- link: ('methodLink', 'ManyNames', 3, ('java/lang/Object', '<init>', '()V'))
-- link: ('methodLink', 'ManyNames$Folk', 3, ('java/lang/Object', '<init>', '()V'))
theorem gX1_9 : FL RX1 9 1 0 := ⟨RX1, TX1, 6, rfl, by decide, aw_in 110 (by decide +kernel) rfl, wnX1, rfl⟩
theorem gX6_143 : FL RX6 143 1 0 := ⟨RX1, TX1, 6, rfl, by decide, aw_in 111 (by decide +kernel) rfl, wnX1, rfl⟩
theorem gX1_15 : FL RX1 15 1 1 := ⟨RX1, TX1, 6, rfl, by decide, aw_in 112 (by decide +kernel) rfl, wnX1, rfl⟩
theorem gX6_88 : FL RX6 88 1 1 := ⟨RX1, TX1, 6, rfl, by decide, aw_in 113 (by decide +kernel) rfl, wnX1, rfl⟩
theorem gX1_19 : FL RX1 19 1 2 := ⟨RX1, TX1, 6, rfl, by decide, aw_in 114 (by decide +kernel) rfl, wnX1, rfl⟩
theorem gX6_96 : FL RX6 96 1 2 := ⟨RX1, TX1, 6, rfl, by decide, aw_in 115 (by decide +kernel) rfl, wnX1, rfl⟩
theorem gX1_22 : FL RX1 22 1 3 := ⟨RX1, TX1, 6, rfl, by decide, aw_in 116 (by decide +kernel) rfl, wnX1, rfl⟩
theorem gX6_149 : FL RX6 149 1 3 := ⟨RX1, TX1, 6, rfl, by decide, aw_in 117 (by decide +kernel) rfl, wnX1, rfl⟩
theorem gX1_25 : FL RX1 25 1 4 := ⟨RX1, TX1, 6, rfl, by decide, aw_in 118 (by decide +kernel) rfl, wnX1, rfl⟩
theorem gX6_99 : FL RX6 99 1 4 := ⟨RX1, TX1, 6, rfl, by decide, aw_in 119 (by decide +kernel) rfl, wnX1, rfl⟩
theorem gX1_28 : FL RX1 28 1 5 := ⟨RX1, TX1, 6, rfl, by decide, aw_in 120 (by decide +kernel) rfl, wnX1, rfl⟩
theorem gX6_161 : FL RX6 161 1 5 := ⟨RX1, TX1, 6, rfl, by decide, aw_in 121 (by decide +kernel) rfl, wnX1, rfl⟩
-- link: ('methodLink', 'ManyNames$Ties', 3, ('java/lang/Object', '<init>', '()V'))
theorem gX4_9 : FL RX4 9 4 0 := ⟨RX4, TX4, 6, rfl, by decide, aw_in 143 (by decide +kernel) rfl, wnX4, rfl⟩
theorem gX6_122 : FL RX6 122 4 0 := ⟨RX4, TX4, 6, rfl, by decide, aw_in 144 (by decide +kernel) rfl, wnX4, rfl⟩
theorem gX4_15 : FL RX4 15 4 1 := ⟨RX4, TX4, 6, rfl, by decide, aw_in 145 (by decide +kernel) rfl, wnX4, rfl⟩
theorem gX6_125 : FL RX6 125 4 1 := ⟨RX4, TX4, 6, rfl, by decide, aw_in 146 (by decide +kernel) rfl, wnX4, rfl⟩
theorem gX4_18 : FL RX4 18 4 2 := ⟨RX4, TX4, 6, rfl, by decide, aw_in 147 (by decide +kernel) rfl, wnX4, rfl⟩
theorem gX6_128 : FL RX6 128 4 2 := ⟨RX4, TX4, 6, rfl, by decide, aw_in 148 (by decide +kernel) rfl, wnX4, rfl⟩
theorem gX4_21 : FL RX4 21 4 3 := ⟨RX4, TX4, 6, rfl, by decide, aw_in 149 (by decide +kernel) rfl, wnX4, rfl⟩
theorem gX6_131 : FL RX6 131 4 3 := ⟨RX4, TX4, 6, rfl, by decide, aw_in 150 (by decide +kernel) rfl, wnX4, rfl⟩
theorem gX4_24 : FL RX4 24 4 4 := ⟨RX4, TX4, 6, rfl, by decide, aw_in 151 (by decide +kernel) rfl, wnX4, rfl⟩
theorem gX6_134 : FL RX6 134 4 4 := ⟨RX4, TX4, 6, rfl, by decide, aw_in 152 (by decide +kernel) rfl, wnX4, rfl⟩
theorem gX4_27 : FL RX4 27 4 5 := ⟨RX4, TX4, 6, rfl, by decide, aw_in 153 (by decide +kernel) rfl, wnX4, rfl⟩
theorem gX6_109 : FL RX6 109 4 5 := ⟨RX4, TX4, 6, rfl, by decide, aw_in 154 (by decide +kernel) rfl, wnX4, rfl⟩
-- link: ('methodLink', 'ManyNames$Words', 3, ('java/lang/Object', '<init>', '()V'))
theorem gX5_9 : FL RX5 9 5 0 := ⟨RX5, TX5, 8, rfl, by decide, aw_in 174 (by decide +kernel) rfl, wnX5, rfl⟩
theorem gX6_221 : FL RX6 221 5 0 := ⟨RX5, TX5, 8, rfl, by decide, aw_in 175 (by decide +kernel) rfl, wnX5, rfl⟩
theorem gX5_15 : FL RX5 15 5 1 := ⟨RX5, TX5, 8, rfl, by decide, aw_in 176 (by decide +kernel) rfl, wnX5, rfl⟩
theorem gX6_224 : FL RX6 224 5 1 := ⟨RX5, TX5, 8, rfl, by decide, aw_in 177 (by decide +kernel) rfl, wnX5, rfl⟩
theorem gX5_18 : FL RX5 18 5 2 := ⟨RX5, TX5, 8, rfl, by decide, aw_in 178 (by decide +kernel) rfl, wnX5, rfl⟩
theorem gX6_227 : FL RX6 227 5 2 := ⟨RX5, TX5, 8, rfl, by decide, aw_in 179 (by decide +kernel) rfl, wnX5, rfl⟩
theorem gX5_21 : FL RX5 21 5 3 := ⟨RX5, TX5, 8, rfl, by decide, aw_in 180 (by decide +kernel) rfl, wnX5, rfl⟩
theorem gX6_230 : FL RX6 230 5 3 := ⟨RX5, TX5, 8, rfl, by decide, aw_in 181 (by decide +kernel) rfl, wnX5, rfl⟩
theorem gX5_24 : FL RX5 24 5 4 := ⟨RX5, TX5, 8, rfl, by decide, aw_in 182 (by decide +kernel) rfl, wnX5, rfl⟩
theorem gX6_233 : FL RX6 233 5 4 := ⟨RX5, TX5, 8, rfl, by decide, aw_in 183 (by decide +kernel) rfl, wnX5, rfl⟩
theorem gX5_27 : FL RX5 27 5 5 := ⟨RX5, TX5, 8, rfl, by decide, aw_in 184 (by decide +kernel) rfl, wnX5, rfl⟩
theorem gX6_351 : FL RX6 351 5 5 := ⟨RX5, TX5, 8, rfl, by decide, aw_in 185 (by decide +kernel) rfl, wnX5, rfl⟩
theorem gX5_30 : FL RX5 30 5 6 := ⟨RX5, TX5, 8, rfl, by decide, aw_in 186 (by decide +kernel) rfl, wnX5, rfl⟩
theorem gX5_34 : FL RX5 34 5 7 := ⟨RX5, TX5, 8, rfl, by decide, aw_in 187 (by decide +kernel) rfl, wnX5, rfl⟩
theorem gX6_255 : FL RX6 255 5 7 := ⟨RX5, TX5, 8, rfl, by decide, aw_in 188 (by decide +kernel) rfl, wnX5, rfl⟩
-- link: ('methodLink', 'ManyNames$Tape', 3, ('java/lang/Object', '<init>', '()V'))
theorem gX3_11 : FL RX3 11 3 0 := ⟨RX3, TX3, 8, rfl, by decide, aw_in 212 (by decide +kernel) rfl, wnX3, rfl⟩
theorem gX3_15 : FL RX3 15 3 1 := ⟨RX3, TX3, 8, rfl, by decide, aw_in 213 (by decide +kernel) rfl, wnX3, rfl⟩
theorem gX6_180 : FL RX6 180 3 1 := ⟨RX3, TX3, 8, rfl, by decide, aw_in 214 (by decide +kernel) rfl, wnX3, rfl⟩
theorem gX3_25 : FL RX3 25 3 2 := ⟨RX3, TX3, 8, rfl, by decide, aw_in 215 (by decide +kernel) rfl, wnX3, rfl⟩
theorem gX6_187 : FL RX6 187 3 2 := ⟨RX3, TX3, 8, rfl, by decide, aw_in 216 (by decide +kernel) rfl, wnX3, rfl⟩
theorem gX3_19 : FL RX3 19 3 3 := ⟨RX3, TX3, 8, rfl, by decide, aw_in 217 (by decide +kernel) rfl, wnX3, rfl⟩
theorem gX3_38 : FL RX3 38 3 4 := ⟨RX3, TX3, 8, rfl, by decide, aw_in 218 (by decide +kernel) rfl, wnX3, rfl⟩
theorem gX3_31 : FL RX3 31 3 5 := ⟨RX3, TX3, 8, rfl, by decide, aw_in 219 (by decide +kernel) rfl, wnX3, rfl⟩
theorem gX3_45 : FL RX3 45 3 6 := ⟨RX3, TX3, 8, rfl, by decide, aw_in 220 (by decide +kernel) rfl, wnX3, rfl⟩
theorem gX3_22 : FL RX3 22 3 7 := ⟨RX3, TX3, 8, rfl, by decide, aw_in 221 (by decide +kernel) rfl, wnX3, rfl⟩
-- link: ('methodLink', 'ManyNames$Flow', 3, ('java/lang/Object', '<init>', '()V'))
theorem gX0_11 : FL RX0 11 0 0 := ⟨RX0, TX0, 7, rfl, by decide, aw_in 245 (by decide +kernel) rfl, wnX0, rfl⟩
theorem gX0_15 : FL RX0 15 0 1 := ⟨RX0, TX0, 7, rfl, by decide, aw_in 246 (by decide +kernel) rfl, wnX0, rfl⟩
theorem gX0_18 : FL RX0 18 0 2 := ⟨RX0, TX0, 7, rfl, by decide, aw_in 247 (by decide +kernel) rfl, wnX0, rfl⟩
theorem gX0_21 : FL RX0 21 0 3 := ⟨RX0, TX0, 7, rfl, by decide, aw_in 248 (by decide +kernel) rfl, wnX0, rfl⟩
theorem gX0_24 : FL RX0 24 0 4 := ⟨RX0, TX0, 7, rfl, by decide, aw_in 249 (by decide +kernel) rfl, wnX0, rfl⟩
theorem gX0_27 : FL RX0 27 0 5 := ⟨RX0, TX0, 7, rfl, by decide, aw_in 250 (by decide +kernel) rfl, wnX0, rfl⟩
theorem gX0_53 : FL RX0 53 0 6 := ⟨RX0, TX0, 7, rfl, by decide, aw_in 251 (by decide +kernel) rfl, wnX0, rfl⟩
theorem gX6_199 : FL RX6 199 0 6 := ⟨RX0, TX0, 7, rfl, by decide, aw_in 252 (by decide +kernel) rfl, wnX0, rfl⟩
-- static field: ('fieldLink', 'ManyNames', 66, 'ManyNames', 'RULES_AT_FIRST', '[I') 270
-- link: ('methodLink', 'ManyNames', 69, ('java/lang/System', 'arraycopy', '(Ljava/lang/Object;ILjava/lang/Object;II)V'))
-- link: ('methodLink', 'ManyNames$Sheet', 3, ('java/lang/Object', '<init>', '()V'))
theorem gX2_11 : FL RX2 11 2 0 := ⟨RX2, TX2, 3, rfl, by decide, aw_in 280 (by decide +kernel) rfl, wnX2, rfl⟩
theorem gX6_303 : FL RX6 303 2 0 := ⟨RX2, TX2, 3, rfl, by decide, aw_in 281 (by decide +kernel) rfl, wnX2, rfl⟩
theorem gX2_25 : FL RX2 25 2 1 := ⟨RX2, TX2, 3, rfl, by decide, aw_in 282 (by decide +kernel) rfl, wnX2, rfl⟩
theorem gX2_15 : FL RX2 15 2 2 := ⟨RX2, TX2, 3, rfl, by decide, aw_in 283 (by decide +kernel) rfl, wnX2, rfl⟩
theorem gX6_326 : FL RX6 326 2 2 := ⟨RX2, TX2, 3, rfl, by decide, aw_in 284 (by decide +kernel) rfl, wnX2, rfl⟩
theorem gX6_12 : FL RX6 12 6 0 := ⟨RX6, TX6, 13, rfl, by decide, aw_in 292 (by decide +kernel) rfl, wnX6, rfl⟩
theorem gX6_19 : FL RX6 19 6 1 := ⟨RX6, TX6, 13, rfl, by decide, aw_in 293 (by decide +kernel) rfl, wnX6, rfl⟩
theorem gX6_26 : FL RX6 26 6 2 := ⟨RX6, TX6, 13, rfl, by decide, aw_in 294 (by decide +kernel) rfl, wnX6, rfl⟩
theorem gX6_33 : FL RX6 33 6 3 := ⟨RX6, TX6, 13, rfl, by decide, aw_in 295 (by decide +kernel) rfl, wnX6, rfl⟩
theorem gX6_40 : FL RX6 40 6 4 := ⟨RX6, TX6, 13, rfl, by decide, aw_in 296 (by decide +kernel) rfl, wnX6, rfl⟩
theorem gX6_46 : FL RX6 46 6 5 := ⟨RX6, TX6, 13, rfl, by decide, aw_in 297 (by decide +kernel) rfl, wnX6, rfl⟩
theorem gX6_50 : FL RX6 50 6 6 := ⟨RX6, TX6, 13, rfl, by decide, aw_in 298 (by decide +kernel) rfl, wnX6, rfl⟩
theorem gX6_54 : FL RX6 54 6 7 := ⟨RX6, TX6, 13, rfl, by decide, aw_in 299 (by decide +kernel) rfl, wnX6, rfl⟩
theorem gX6_57 : FL RX6 57 6 8 := ⟨RX6, TX6, 13, rfl, by decide, aw_in 300 (by decide +kernel) rfl, wnX6, rfl⟩
theorem gX6_60 : FL RX6 60 6 9 := ⟨RX6, TX6, 13, rfl, by decide, aw_in 301 (by decide +kernel) rfl, wnX6, rfl⟩
theorem gX6_63 : FL RX6 63 6 10 := ⟨RX6, TX6, 13, rfl, by decide, aw_in 302 (by decide +kernel) rfl, wnX6, rfl⟩
theorem gX6_113 : FL RX6 113 6 11 := ⟨RX6, TX6, 13, rfl, by decide, aw_in 303 (by decide +kernel) rfl, wnX6, rfl⟩
theorem gX6_309 : FL RX6 309 6 12 := ⟨RX6, TX6, 13, rfl, by decide, aw_in 304 (by decide +kernel) rfl, wnX6, rfl⟩
theorem lL_13 : ML RL 13 mX6_name := aw_in 332 (by decide +kernel) rfl
theorem lX6_76 : ML RX6 76 mX6_within := aw_in 336 (by decide +kernel) rfl
theorem lX6_80 : ML RX6 80 mX1_enter := aw_in 339 (by decide +kernel) rfl
theorem lL_18 : ML RL 18 mX6_seed := aw_in 343 (by decide +kernel) rfl
theorem lX6_84 : ML RX6 84 mX6_isName := aw_in 347 (by decide +kernel) rfl
theorem lX6_92 : ML RX6 92 mX6_oneIf := aw_in 351 (by decide +kernel) rfl
theorem lL_23 : ML RL 23 mX6_pledge := aw_in 354 (by decide +kernel) rfl
theorem lX6_102 : ML RX6 102 mX6_pledgeRoom := aw_in 358 (by decide +kernel) rfl
theorem lL_28 : ML RL 28 mX6_tie := aw_in 362 (by decide +kernel) rfl
theorem lX6_105 : ML RX6 105 mX6_arePair := aw_in 366 (by decide +kernel) rfl
theorem lX6_116 : ML RX6 116 mX4_enter := aw_in 370 (by decide +kernel) rfl
theorem lL_33 : ML RL 33 mX6_tieOf := aw_in 374 (by decide +kernel) rfl
theorem lX6_119 : ML RX6 119 mX6_isTie := aw_in 378 (by decide +kernel) rfl
theorem lX6_137 : ML RX6 137 mX6_roomOf := aw_in 382 (by decide +kernel) rfl
theorem lX6_140 : ML RX6 140 mX6_hasMadeEnd := aw_in 386 (by decide +kernel) rfl
theorem lX6_329 : ML RX6 329 mX6_faded := aw_in 390 (by decide +kernel) rfl
theorem lX6_165 : ML RX6 165 mJ9_max_7cf53 := aw_in 393 (by decide +kernel) rfl
theorem lX6_146 : ML RX6 146 mX6_isFined := aw_in 396 (by decide +kernel) rfl
theorem lL_37 : ML RL 37 mX6_renew := aw_in 400 (by decide +kernel) rfl
theorem lL_41 : ML RL 41 mX6_of := aw_in 404 (by decide +kernel) rfl
theorem lX6_152 : ML RX6 152 mX6_givenTo := aw_in 408 (by decide +kernel) rfl
theorem lX6_155 : ML RX6 155 mX6_openTies := aw_in 412 (by decide +kernel) rfl
theorem lX6_162 : ML RX6 162 mX6_hasBit := aw_in 416 (by decide +kernel) rfl
theorem lL_45 : ML RL 45 mX6_made := aw_in 419 (by decide +kernel) rfl
theorem lX6_158 : ML RX6 158 mX6_standingFor := aw_in 423 (by decide +kernel) rfl
theorem lX6_171 : ML RX6 171 mJ6_bitCount_0f7a4 := aw_in 427 (by decide +kernel) rfl
theorem qJ6_265 : Cond.constant RJ6 265 (1431655765) ∈ aw_tb := aw_in 430 (by decide +kernel) rfl
theorem qJ6_266 : Cond.constant RJ6 266 (858993459) ∈ aw_tb := aw_in 431 (by decide +kernel) rfl
theorem qJ6_267 : Cond.constant RJ6 267 (252645135) ∈ aw_tb := aw_in 432 (by decide +kernel) rfl
theorem lL_49 : ML RL 49 mX6_day := aw_in 433 (by decide +kernel) rfl
theorem lL_55 : ML RL 55 mX6_feed := aw_in 437 (by decide +kernel) rfl
theorem lX6_176 : ML RX6 176 mX3_takeEight := aw_in 441 (by decide +kernel) rfl
theorem lL_60 : ML RL 60 mX6_end := aw_in 445 (by decide +kernel) rfl
theorem lL_64 : ML RL 64 mX6_rules := aw_in 449 (by decide +kernel) rfl
theorem lX6_183 : ML RX6 183 mX3_readLines := aw_in 453 (by decide +kernel) rfl
theorem lX3_28 : ML RX3 28 mX3_readToken := aw_in 457 (by decide +kernel) rfl
theorem lX3_62 : ML RX3 62 mX3_isLetter := aw_in 461 (by decide +kernel) rfl
theorem lX3_58 : MLN RX3 58 mX6_within := List.mem_of_getElem? (i := 465) (by decide +kernel)
theorem lX3_65 : ML RX3 65 mX3_readRule := aw_in 466 (by decide +kernel) rfl
theorem lX3_74 : ML RX3 74 mX3_textOf := aw_in 470 (by decide +kernel) rfl
theorem lX3_78 : ML RX3 78 mX3_isText := aw_in 484 (by decide +kernel) rfl
theorem lX3_82 : ML RX3 82 mJ0_length_8abf5 := aw_in 488 (by decide +kernel) rfl
theorem lJ0_335 : ML RJ0 335 mJ0_coder_7d493 := aw_in 492 (by decide +kernel) rfl
-- field: ('fieldLink', 'java/lang/String', 38, 'java/lang/String', 'COMPACT_STRINGS', 'Z')
theorem lX3_87 : ML RX3 87 mJ0_charAt_5068e := aw_in 498 (by decide +kernel) rfl
theorem lJ0_492 : ML RJ0 492 mJ0_isLatin1_aae02 := aw_in 502 (by decide +kernel) rfl
theorem lJ0_495 : ML RJ0 495 mJ1_charAt_3b067 := aw_in 506 (by decide +kernel) rfl
theorem lJ1_9 : ML RJ1 9 mJ0_checkIndex_df160 := aw_in 509 (by decide +kernel) rfl
-- field: ('fieldLink', 'java/lang/String', 1053, 'jdk/internal/util/Preconditions', 'SIOOBE_FORMATTER', 'Ljava/util/function/BiFunction;')
theorem lJ0_1059 : ML RJ0 1059 mJ3_checkIndex_8e157 := aw_in 514 (by decide +kernel) rfl
theorem lJ0_498 : ML RJ0 498 mJ2_charAt_3b067 := aw_in 517 (by decide +kernel) rfl
theorem lJ2_67 : ML RJ2 67 mJ2_checkIndex_2214a := aw_in 520 (by decide +kernel) rfl
theorem lJ2_48 : ML RJ2 48 mJ2_length_9d52b := aw_in 523 (by decide +kernel) rfl
theorem lJ2_414 : ML RJ2 414 mJ0_checkIndex_df160 := aw_in 526 (by decide +kernel) rfl
theorem lJ2_71 : ML RJ2 71 mJ2_getChar_3b067 := aw_in 527 (by decide +kernel) rfl
-- field: ('fieldLink', 'java/lang/StringUTF16', 44, 'java/lang/StringUTF16', '$assertionsDisabled', 'Z')
-- field: ('fieldLink', 'java/lang/StringUTF16', 59, 'java/lang/StringUTF16', 'HI_BYTE_SHIFT', 'I')
-- field: ('fieldLink', 'java/lang/StringUTF16', 63, 'java/lang/StringUTF16', 'LO_BYTE_SHIFT', 'I')
theorem lX3_68 : ML RX3 68 mX3_isFigure := aw_in 536 (by decide +kernel) rfl
theorem lX3_71 : ML RX3 71 mX3_readNumber := aw_in 540 (by decide +kernel) rfl
theorem lX3_34 : ML RX3 34 mX3_readLine := aw_in 544 (by decide +kernel) rfl
theorem lX3_41 : ML RX3 41 mX3_stands := aw_in 548 (by decide +kernel) rfl
theorem lX3_48 : MLN RX3 48 mX6_hasBit := List.mem_of_getElem? (i := 552) (by decide +kernel)
theorem lL_69 : ML RL 69 mX6_fault := aw_in 558 (by decide +kernel) rfl
theorem lL_73 : ML RL 73 mX6_rule := aw_in 562 (by decide +kernel) rfl
theorem lL_77 : ML RL 77 mX6_trust := aw_in 566 (by decide +kernel) rfl
theorem lX6_190 : ML RX6 190 mX6_layFlow := aw_in 570 (by decide +kernel) rfl
theorem lX6_332 : ML RX6 332 mX0_clear := aw_in 574 (by decide +kernel) rfl
theorem lX0_30 : ML RX0 30 mJ7_fill_53178 := aw_in 578 (by decide +kernel) rfl
theorem lX6_335 : ML RX6 335 mX0_give := aw_in 581 (by decide +kernel) rfl
theorem lX0_36 : ML RX0 36 mX0_widen := aw_in 585 (by decide +kernel) rfl
theorem lX6_338 : ML RX6 338 mX0_join := aw_in 589 (by decide +kernel) rfl
theorem lX6_193 : ML RX6 193 mX0_most := aw_in 593 (by decide +kernel) rfl
-- link: ('methodLink', 'ManyNames$Flow', 40, ('java/lang/System', 'arraycopy', '(Ljava/lang/Object;ILjava/lang/Object;II)V'))
theorem lX0_46 : ML RX0 46 mX0_search := aw_in 598 (by decide +kernel) rfl
theorem lX0_57 : MLN RX0 57 mX6_hasBit := List.mem_of_getElem? (i := 602) (by decide +kernel)
theorem lX0_50 : ML RX0 50 mX0_push := aw_in 603 (by decide +kernel) rfl
theorem lX0_61 : ML RX0 61 mJ9_min_7cf53 := aw_in 607 (by decide +kernel) rfl
theorem lL_81 : ML RL 81 mX6_heap := aw_in 610 (by decide +kernel) rfl
theorem lX6_196 : ML RX6 196 mX6_isHeap := aw_in 614 (by decide +kernel) rfl
theorem lL_85 : ML RL 85 mX6_cut := aw_in 618 (by decide +kernel) rfl
theorem lX6_202 : ML RX6 202 mX6_tiesOutOf := aw_in 622 (by decide +kernel) rfl
theorem lX6_205 : ML RX6 205 mX6_givenBeyond := aw_in 626 (by decide +kernel) rfl
theorem lL_89 : ML RL 89 mX6_low := aw_in 630 (by decide +kernel) rfl
theorem lX6_208 : ML RX6 208 mX6_isPlain := aw_in 634 (by decide +kernel) rfl
theorem lL_93 : ML RL 93 mX6_twins := aw_in 638 (by decide +kernel) rfl
theorem lX6_211 : ML RX6 211 mX6_fillTrusts := aw_in 642 (by decide +kernel) rfl
theorem lL_97 : ML RL 97 mX6_word := aw_in 646 (by decide +kernel) rfl
theorem lX6_214 : ML RX6 214 mX6_refusalOf := aw_in 650 (by decide +kernel) rfl
theorem lX6_217 : ML RX6 217 mX5_enter := aw_in 654 (by decide +kernel) rfl
theorem lX5_38 : ML RX5 38 mX5_isNewDeal := aw_in 658 (by decide +kernel) rfl
theorem lL_101 : ML RL 101 mX6_wordOf := aw_in 662 (by decide +kernel) rfl
theorem lX6_218 : ML RX6 218 mX6_isWord := aw_in 666 (by decide +kernel) rfl
theorem lX6_234 : ML RX6 234 mX5_doesCount := aw_in 670 (by decide +kernel) rfl
theorem lX5_42 : ML RX5 42 mX5_countingOf := aw_in 674 (by decide +kernel) rfl
theorem lL_105 : ML RL 105 mX6_weight := aw_in 678 (by decide +kernel) rfl
theorem lX6_237 : ML RX6 237 mX6_sayersOf := aw_in 682 (by decide +kernel) rfl
theorem lX6_240 : ML RX6 240 mX6_weighSayers := aw_in 686 (by decide +kernel) rfl
theorem lX6_342 : ML RX6 342 mX5_countingOf := aw_in 690 (by decide +kernel) rfl
theorem lL_109 : ML RL 109 mX6_sayers := aw_in 691 (by decide +kernel) rfl
theorem lL_113 : ML RL 113 mX6_mark := aw_in 695 (by decide +kernel) rfl
theorem lX6_243 : ML RX6 243 mX6_summedMarks := aw_in 699 (by decide +kernel) rfl
theorem lX6_247 : ML RX6 247 mX6_inLowest := aw_in 703 (by decide +kernel) rfl
theorem lX6_345 : ML RX6 345 mX6_commonPart := aw_in 706 (by decide +kernel) rfl
theorem lX6_349 : ML RX6 349 mJ9_max_f86c9 := aw_in 709 (by decide +kernel) rfl
theorem lL_117 : ML RL 117 mX6_span := aw_in 712 (by decide +kernel) rfl
theorem lX6_251 : ML RX6 251 mX6_greatestStakes := aw_in 716 (by decide +kernel) rfl
theorem lL_122 : ML RL 122 mX6_ring := aw_in 720 (by decide +kernel) rfl
theorem lX6_256 : ML RX6 256 mX6_wordsWithin := aw_in 724 (by decide +kernel) rfl
theorem lL_126 : ML RL 126 mX6_odds := aw_in 728 (by decide +kernel) rfl
theorem qX6_259 : Cond.constantLong RX6 259 (-1) ∈ aw_tb := aw_in 732 (by decide +kernel) rfl
theorem lX6_261 : ML RX6 261 mX6_waysOf := aw_in 733 (by decide +kernel) rfl
theorem lX6_265 : ML RX6 265 mX6_choose := aw_in 737 (by decide +kernel) rfl
theorem lL_131 : ML RL 131 mX6_oddest := aw_in 740 (by decide +kernel) rfl
theorem qX6_268 : Cond.constantLong RX6 268 (-4) ∈ aw_tb := aw_in 744 (by decide +kernel) rfl
theorem lL_136 : ML RL 136 mX6_gain := aw_in 745 (by decide +kernel) rfl
theorem lX6_270 : ML RX6 270 mX6_isOffer := aw_in 749 (by decide +kernel) rfl
theorem lX6_273 : ML RX6 273 mX6_sellingNames := aw_in 752 (by decide +kernel) rfl
theorem qX6_276 : Cond.constant RX6 276 (-1000000) ∈ aw_tb := aw_in 756 (by decide +kernel) rfl
theorem lX6_277 : ML RX6 277 mX6_boughtRoom := aw_in 757 (by decide +kernel) rfl
theorem lX6_280 : ML RX6 280 mX6_gainBy := aw_in 761 (by decide +kernel) rfl
theorem lX6_354 : ML RX6 354 mX0_partCheat := aw_in 765 (by decide +kernel) rfl
theorem lL_140 : ML RL 140 mX6_best := aw_in 769 (by decide +kernel) rfl
theorem lL_144 : ML RL 144 mX6_sheet := aw_in 773 (by decide +kernel) rfl
theorem lX6_284 : ML RX6 284 mX6_isSheet := aw_in 777 (by decide +kernel) rfl
theorem lX6_287 : ML RX6 287 mX6_isLane := aw_in 780 (by decide +kernel) rfl
theorem lX6_290 : ML RX6 290 mX2_renewRow := aw_in 783 (by decide +kernel) rfl
theorem lX2_19 : ML RX2 19 mJ7_fill_53178 := aw_in 787 (by decide +kernel) rfl
theorem lL_148 : ML RL 148 mX6_lay := aw_in 788 (by decide +kernel) rfl
theorem lX6_294 : ML RX6 294 mX2_faultAt := aw_in 792 (by decide +kernel) rfl
theorem lX2_28 : ML RX2 28 mX2_isNothing := aw_in 796 (by decide +kernel) rfl
theorem lX2_32 : MLN RX2 32 mX6_within := List.mem_of_getElem? (i := 800) (by decide +kernel)
theorem lX6_297 : ML RX6 297 mX2_put := aw_in 801 (by decide +kernel) rfl
theorem lL_152 : ML RL 152 mX6_read := aw_in 805 (by decide +kernel) rfl
theorem lX6_300 : ML RX6 300 mX2_wholeWords := aw_in 809 (by decide +kernel) rfl
theorem lX2_36 : ML RX2 36 mJ9_min_7cf53 := aw_in 813 (by decide +kernel) rfl
theorem lX6_306 : ML RX6 306 mX2_faultOfReading := aw_in 814 (by decide +kernel) rfl
theorem lL_156 : ML RL 156 mX6_lost := aw_in 818 (by decide +kernel) rfl
theorem lL_160 : ML RL 160 mX6_count := aw_in 822 (by decide +kernel) rfl
theorem lX6_312 : ML RX6 312 mX6_countTrue := aw_in 826 (by decide +kernel) rfl
theorem lX6_316 : ML RX6 316 mX6_countFined := aw_in 830 (by decide +kernel) rfl
theorem lX6_319 : ML RX6 319 mX5_countingOnes := aw_in 834 (by decide +kernel) rfl
theorem lX5_46 : ML RX5 46 mX5_doesCount := aw_in 838 (by decide +kernel) rfl
theorem lX5_49 : MLN RX5 49 mX6_oneIf := List.mem_of_getElem? (i := 839) (by decide +kernel)
theorem lX6_322 : ML RX6 322 mX2_isNothing := aw_in 840 (by decide +kernel) rfl
theorem lL_12 : ML RL 12 mX7_init := aw_in 843 (by decide +kernel) rfl
-- link: ('methodLink', 'ManyNamesModel', 1, ('java/lang/Object', '<init>', '()V'))
theorem lX7_92 : ML RX7 92 mX7_firstRules := aw_in 847 (by decide +kernel) rfl
theorem lX7_95 : ML RX7 95 mX7_keepRules := aw_in 851 (by decide +kernel) rfl
theorem gX7_98 : FL RX7 98 7 0 := ⟨RX7, TX7, 44, rfl, by decide, aw_in 855 (by decide +kernel) rfl, wnX7, rfl⟩
theorem gX7_7 : FL RX7 7 7 1 := ⟨RX7, TX7, 44, rfl, by decide, aw_in 856 (by decide +kernel) rfl, wnX7, rfl⟩
theorem gX7_13 : FL RX7 13 7 2 := ⟨RX7, TX7, 44, rfl, by decide, aw_in 857 (by decide +kernel) rfl, wnX7, rfl⟩
theorem gX7_17 : FL RX7 17 7 3 := ⟨RX7, TX7, 44, rfl, by decide, aw_in 858 (by decide +kernel) rfl, wnX7, rfl⟩
theorem gX7_20 : FL RX7 20 7 4 := ⟨RX7, TX7, 44, rfl, by decide, aw_in 859 (by decide +kernel) rfl, wnX7, rfl⟩
theorem gX7_23 : FL RX7 23 7 5 := ⟨RX7, TX7, 44, rfl, by decide, aw_in 860 (by decide +kernel) rfl, wnX7, rfl⟩
theorem gX7_121 : FL RX7 121 7 6 := ⟨RX7, TX7, 44, rfl, by decide, aw_in 861 (by decide +kernel) rfl, wnX7, rfl⟩
theorem gX7_26 : FL RX7 26 7 7 := ⟨RX7, TX7, 44, rfl, by decide, aw_in 862 (by decide +kernel) rfl, wnX7, rfl⟩
theorem gX7_29 : FL RX7 29 7 8 := ⟨RX7, TX7, 44, rfl, by decide, aw_in 863 (by decide +kernel) rfl, wnX7, rfl⟩
theorem gX7_32 : FL RX7 32 7 9 := ⟨RX7, TX7, 44, rfl, by decide, aw_in 864 (by decide +kernel) rfl, wnX7, rfl⟩
theorem gX7_35 : FL RX7 35 7 10 := ⟨RX7, TX7, 44, rfl, by decide, aw_in 865 (by decide +kernel) rfl, wnX7, rfl⟩
theorem gX7_38 : FL RX7 38 7 11 := ⟨RX7, TX7, 44, rfl, by decide, aw_in 866 (by decide +kernel) rfl, wnX7, rfl⟩
theorem gX7_106 : FL RX7 106 7 12 := ⟨RX7, TX7, 44, rfl, by decide, aw_in 867 (by decide +kernel) rfl, wnX7, rfl⟩
theorem gX7_41 : FL RX7 41 7 13 := ⟨RX7, TX7, 44, rfl, by decide, aw_in 868 (by decide +kernel) rfl, wnX7, rfl⟩
theorem gX7_44 : FL RX7 44 7 14 := ⟨RX7, TX7, 44, rfl, by decide, aw_in 869 (by decide +kernel) rfl, wnX7, rfl⟩
theorem gX7_47 : FL RX7 47 7 15 := ⟨RX7, TX7, 44, rfl, by decide, aw_in 870 (by decide +kernel) rfl, wnX7, rfl⟩
theorem gX7_50 : FL RX7 50 7 16 := ⟨RX7, TX7, 44, rfl, by decide, aw_in 871 (by decide +kernel) rfl, wnX7, rfl⟩
theorem gX7_149 : FL RX7 149 7 17 := ⟨RX7, TX7, 44, rfl, by decide, aw_in 872 (by decide +kernel) rfl, wnX7, rfl⟩
theorem gX7_163 : FL RX7 163 7 18 := ⟨RX7, TX7, 44, rfl, by decide, aw_in 873 (by decide +kernel) rfl, wnX7, rfl⟩
theorem gX7_157 : FL RX7 157 7 19 := ⟨RX7, TX7, 44, rfl, by decide, aw_in 874 (by decide +kernel) rfl, wnX7, rfl⟩
theorem gX7_173 : FL RX7 173 7 20 := ⟨RX7, TX7, 44, rfl, by decide, aw_in 875 (by decide +kernel) rfl, wnX7, rfl⟩
theorem gX7_184 : FL RX7 184 7 21 := ⟨RX7, TX7, 44, rfl, by decide, aw_in 876 (by decide +kernel) rfl, wnX7, rfl⟩
theorem gX7_154 : FL RX7 154 7 22 := ⟨RX7, TX7, 44, rfl, by decide, aw_in 877 (by decide +kernel) rfl, wnX7, rfl⟩
theorem gX7_160 : FL RX7 160 7 23 := ⟨RX7, TX7, 44, rfl, by decide, aw_in 878 (by decide +kernel) rfl, wnX7, rfl⟩
theorem gX7_53 : FL RX7 53 7 24 := ⟨RX7, TX7, 44, rfl, by decide, aw_in 879 (by decide +kernel) rfl, wnX7, rfl⟩
theorem gX7_56 : FL RX7 56 7 25 := ⟨RX7, TX7, 44, rfl, by decide, aw_in 880 (by decide +kernel) rfl, wnX7, rfl⟩
theorem gX7_59 : FL RX7 59 7 26 := ⟨RX7, TX7, 44, rfl, by decide, aw_in 881 (by decide +kernel) rfl, wnX7, rfl⟩
theorem gX7_235 : FL RX7 235 7 27 := ⟨RX7, TX7, 44, rfl, by decide, aw_in 882 (by decide +kernel) rfl, wnX7, rfl⟩
theorem gX7_62 : FL RX7 62 7 28 := ⟨RX7, TX7, 44, rfl, by decide, aw_in 883 (by decide +kernel) rfl, wnX7, rfl⟩
theorem gX7_65 : FL RX7 65 7 29 := ⟨RX7, TX7, 44, rfl, by decide, aw_in 884 (by decide +kernel) rfl, wnX7, rfl⟩
theorem gX7_68 : FL RX7 68 7 30 := ⟨RX7, TX7, 44, rfl, by decide, aw_in 885 (by decide +kernel) rfl, wnX7, rfl⟩
theorem gX7_71 : FL RX7 71 7 31 := ⟨RX7, TX7, 44, rfl, by decide, aw_in 886 (by decide +kernel) rfl, wnX7, rfl⟩
theorem gX7_74 : FL RX7 74 7 32 := ⟨RX7, TX7, 44, rfl, by decide, aw_in 887 (by decide +kernel) rfl, wnX7, rfl⟩
theorem gX7_262 : FL RX7 262 7 33 := ⟨RX7, TX7, 44, rfl, by decide, aw_in 888 (by decide +kernel) rfl, wnX7, rfl⟩
theorem gX7_77 : FL RX7 77 7 34 := ⟨RX7, TX7, 44, rfl, by decide, aw_in 889 (by decide +kernel) rfl, wnX7, rfl⟩
theorem gX7_80 : FL RX7 80 7 35 := ⟨RX7, TX7, 44, rfl, by decide, aw_in 890 (by decide +kernel) rfl, wnX7, rfl⟩
theorem gX7_265 : FL RX7 265 7 36 := ⟨RX7, TX7, 44, rfl, by decide, aw_in 891 (by decide +kernel) rfl, wnX7, rfl⟩
theorem gX7_268 : FL RX7 268 7 37 := ⟨RX7, TX7, 44, rfl, by decide, aw_in 892 (by decide +kernel) rfl, wnX7, rfl⟩
theorem gX7_296 : FL RX7 296 7 38 := ⟨RX7, TX7, 44, rfl, by decide, aw_in 893 (by decide +kernel) rfl, wnX7, rfl⟩
theorem gX7_304 : FL RX7 304 7 39 := ⟨RX7, TX7, 44, rfl, by decide, aw_in 894 (by decide +kernel) rfl, wnX7, rfl⟩
theorem gX7_83 : FL RX7 83 7 40 := ⟨RX7, TX7, 44, rfl, by decide, aw_in 895 (by decide +kernel) rfl, wnX7, rfl⟩
theorem gX7_86 : FL RX7 86 7 41 := ⟨RX7, TX7, 44, rfl, by decide, aw_in 896 (by decide +kernel) rfl, wnX7, rfl⟩
theorem gX7_89 : FL RX7 89 7 42 := ⟨RX7, TX7, 44, rfl, by decide, aw_in 897 (by decide +kernel) rfl, wnX7, rfl⟩
theorem gX7_333 : FL RX7 333 7 43 := ⟨RX7, TX7, 44, rfl, by decide, aw_in 898 (by decide +kernel) rfl, wnX7, rfl⟩
theorem lL_17 : ML RL 17 mX7_name := aw_in 988 (by decide +kernel) rfl
theorem qX7_109 : Cond.constantLong RX7 109 (999) ∈ aw_tb := aw_in 992 (by decide +kernel) rfl
theorem lX7_102 : ML RX7 102 mX7_in := aw_in 993 (by decide +kernel) rfl
theorem lL_22 : ML RL 22 mX7_seed := aw_in 996 (by decide +kernel) rfl
theorem lX7_111 : ML RX7 111 mX7_isName := aw_in 1000 (by decide +kernel) rfl
theorem lL_27 : ML RL 27 mX7_pledge := aw_in 1004 (by decide +kernel) rfl
theorem lX7_115 : ML RX7 115 mX7_pledged := aw_in 1008 (by decide +kernel) rfl
theorem lL_32 : ML RL 32 mX7_tie := aw_in 1012 (by decide +kernel) rfl
theorem qX7_119 : Cond.constantLong RX7 119 (3) ∈ aw_tb := aw_in 1016 (by decide +kernel) rfl
theorem lL_36 : ML RL 36 mX7_tieOf := aw_in 1017 (by decide +kernel) rfl
theorem lX7_131 : ML RX7 131 mX7_isTie := aw_in 1021 (by decide +kernel) rfl
theorem qX7_134 : Cond.constantLong RX7 134 (5) ∈ aw_tb := aw_in 1025 (by decide +kernel) rfl
theorem lX7_136 : ML RX7 136 mX7_roomOf := aw_in 1026 (by decide +kernel) rfl
theorem lX7_124 : ML RX7 124 mX7_faded := aw_in 1030 (by decide +kernel) rfl
theorem lX7_128 : ML RX7 128 mX7_isFined := aw_in 1033 (by decide +kernel) rfl
theorem lL_40 : ML RL 40 mX7_renew := aw_in 1037 (by decide +kernel) rfl
theorem lL_44 : ML RL 44 mX7_of := aw_in 1041 (by decide +kernel) rfl
theorem qX7_139 : Cond.constantLong RX7 139 (6) ∈ aw_tb := aw_in 1045 (by decide +kernel) rfl
theorem lX7_141 : ML RX7 141 mX7_given := aw_in 1046 (by decide +kernel) rfl
theorem lL_48 : ML RL 48 mX7_made := aw_in 1050 (by decide +kernel) rfl
theorem lX7_144 : ML RX7 144 mX7_bits := aw_in 1054 (by decide +kernel) rfl
theorem lL_52 : ML RL 52 mX7_day := aw_in 1057 (by decide +kernel) rfl
theorem qX7_147 : Cond.constantLong RX7 147 (9999) ∈ aw_tb := aw_in 1061 (by decide +kernel) rfl
theorem lL_59 : ML RL 59 mX7_feed := aw_in 1062 (by decide +kernel) rfl
theorem qX7_152 : Cond.constantLong RX7 152 (255) ∈ aw_tb := aw_in 1066 (by decide +kernel) rfl
theorem lL_63 : ML RL 63 mX7_end := aw_in 1067 (by decide +kernel) rfl
theorem lL_68 : ML RL 68 mX7_rules := aw_in 1071 (by decide +kernel) rfl
theorem lX7_195 : ML RX7 195 mX7_next := aw_in 1075 (by decide +kernel) rfl
theorem lX7_166 : ML RX7 166 mX7_look := aw_in 1079 (by decide +kernel) rfl
theorem qX7_176 : Cond.constantLong RX7 176 (97) ∈ aw_tb := aw_in 1083 (by decide +kernel) rfl
theorem qX7_178 : Cond.constantLong RX7 178 (122) ∈ aw_tb := aw_in 1084 (by decide +kernel) rfl
theorem lX7_180 : ML RX7 180 mX7_nameNow := aw_in 1085 (by decide +kernel) rfl
theorem lX7_169 : ML RX7 169 mX7_is := aw_in 1089 (by decide +kernel) rfl
theorem lX7_187 : ML RX7 187 mX7_wants := aw_in 1093 (by decide +kernel) rfl
theorem qX7_191 : Cond.constantLong RX7 191 (48) ∈ aw_tb := aw_in 1097 (by decide +kernel) rfl
theorem qX7_193 : Cond.constantLong RX7 193 (57) ∈ aw_tb := aw_in 1098 (by decide +kernel) rfl
theorem lX7_204 : ML RX7 204 mX7_readLine := aw_in 1099 (by decide +kernel) rfl
theorem lX7_198 : ML RX7 198 mX7_least := aw_in 1103 (by decide +kernel) rfl
theorem lX7_201 : ML RX7 201 mX7_most := aw_in 1106 (by decide +kernel) rfl
theorem lL_72 : ML RL 72 mX7_fault := aw_in 1109 (by decide +kernel) rfl
theorem lL_76 : ML RL 76 mX7_rule := aw_in 1113 (by decide +kernel) rfl
theorem qX7_207 : Cond.constantLong RX7 207 (9) ∈ aw_tb := aw_in 1117 (by decide +kernel) rfl
theorem lL_80 : ML RL 80 mX7_trust := aw_in 1118 (by decide +kernel) rfl
theorem lX7_220 : ML RX7 220 mX7_trustOf := aw_in 1122 (by decide +kernel) rfl
theorem lX7_214 : ML RX7 214 mX7_begins := aw_in 1126 (by decide +kernel) rfl
theorem qX7_213 : Cond.constant RX7 213 (100000000) ∈ aw_tb := aw_in 1130 (by decide +kernel) rfl
theorem lX7_217 : ML RX7 217 mX7_flows := aw_in 1131 (by decide +kernel) rfl
theorem lX7_209 : ML RX7 209 mX7_reaches := aw_in 1135 (by decide +kernel) rfl
theorem lL_84 : ML RL 84 mX7_heap := aw_in 1139 (by decide +kernel) rfl
theorem lX7_223 : ML RX7 223 mX7_areNames := aw_in 1143 (by decide +kernel) rfl
theorem lL_88 : ML RL 88 mX7_cut := aw_in 1147 (by decide +kernel) rfl
theorem qX7_226 : Cond.constantLong RX7 226 (2) ∈ aw_tb := aw_in 1151 (by decide +kernel) rfl
theorem lL_92 : ML RL 92 mX7_low := aw_in 1152 (by decide +kernel) rfl
theorem lX7_228 : ML RX7 228 mX7_isPlain := aw_in 1156 (by decide +kernel) rfl
theorem lL_96 : ML RL 96 mX7_twins := aw_in 1160 (by decide +kernel) rfl
theorem lL_100 : ML RL 100 mX7_word := aw_in 1164 (by decide +kernel) rfl
theorem lX7_238 : ML RX7 238 mX7_isWord := aw_in 1168 (by decide +kernel) rfl
theorem qX7_231 : Cond.constantLong RX7 231 (99) ∈ aw_tb := aw_in 1172 (by decide +kernel) rfl
theorem qX7_233 : Cond.constantLong RX7 233 (10) ∈ aw_tb := aw_in 1173 (by decide +kernel) rfl
theorem lX7_242 : ML RX7 242 mX7_says := aw_in 1174 (by decide +kernel) rfl
theorem lL_104 : ML RL 104 mX7_wordOf := aw_in 1178 (by decide +kernel) rfl
theorem lX7_249 : ML RX7 249 mX7_counts := aw_in 1182 (by decide +kernel) rfl
theorem lX7_246 : ML RX7 246 mX7_isFirst := aw_in 1186 (by decide +kernel) rfl
theorem lL_108 : ML RL 108 mX7_weight := aw_in 1190 (by decide +kernel) rfl
theorem lX7_256 : ML RX7 256 mX7_sayersOf := aw_in 1194 (by decide +kernel) rfl
theorem lX7_252 : ML RX7 252 mX7_wordBy := aw_in 1198 (by decide +kernel) rfl
theorem lX7_259 : ML RX7 259 mX7_weightOf := aw_in 1202 (by decide +kernel) rfl
theorem lL_112 : ML RL 112 mX7_sayers := aw_in 1206 (by decide +kernel) rfl
theorem lL_116 : ML RL 116 mX7_mark := aw_in 1210 (by decide +kernel) rfl
theorem lX7_275 : ML RX7 275 mX7_lists := aw_in 1214 (by decide +kernel) rfl
theorem lX7_279 : ML RX7 279 mX7_fraction := aw_in 1218 (by decide +kernel) rfl
theorem lX7_271 : ML RX7 271 mX7_common := aw_in 1222 (by decide +kernel) rfl
theorem lL_121 : ML RL 121 mX7_span := aw_in 1225 (by decide +kernel) rfl
theorem lX7_282 : ML RX7 282 mX7_moved := aw_in 1229 (by decide +kernel) rfl
theorem lL_125 : ML RL 125 mX7_ring := aw_in 1233 (by decide +kernel) rfl
theorem lX7_293 : ML RX7 293 mX7_ringOf := aw_in 1237 (by decide +kernel) rfl
theorem lX7_286 : ML RX7 286 mX7_isBetween := aw_in 1241 (by decide +kernel) rfl
theorem lX7_290 : ML RX7 290 mX7_isGood := aw_in 1245 (by decide +kernel) rfl
theorem lL_130 : ML RL 130 mX7_odds := aw_in 1249 (by decide +kernel) rfl
theorem qX7_307 : Cond.constantLong RX7 307 (-1) ∈ aw_tb := aw_in 1253 (by decide +kernel) rfl
theorem lX7_309 : ML RX7 309 mX7_findOdds := aw_in 1254 (by decide +kernel) rfl
theorem lX7_300 : ML RX7 300 mX7_ways := aw_in 1258 (by decide +kernel) rfl
theorem lL_135 : ML RL 135 mX7_oddest := aw_in 1261 (by decide +kernel) rfl
theorem qX7_312 : Cond.constantLong RX7 312 (-4) ∈ aw_tb := aw_in 1265 (by decide +kernel) rfl
theorem lL_139 : ML RL 139 mX7_gain := aw_in 1266 (by decide +kernel) rfl
theorem lX7_317 : ML RX7 317 mX7_sellers := aw_in 1270 (by decide +kernel) rfl
theorem lX7_314 : ML RX7 314 mX7_sells := aw_in 1274 (by decide +kernel) rfl
theorem qX7_320 : Cond.constant RX7 320 (-1000000) ∈ aw_tb := aw_in 1278 (by decide +kernel) rfl
theorem lX7_321 : ML RX7 321 mX7_gainOf := aw_in 1279 (by decide +kernel) rfl
theorem lL_143 : ML RL 143 mX7_best := aw_in 1283 (by decide +kernel) rfl
theorem lL_147 : ML RL 147 mX7_sheet := aw_in 1287 (by decide +kernel) rfl
theorem lX7_324 : ML RX7 324 mX7_isSheet := aw_in 1291 (by decide +kernel) rfl
theorem lL_151 : ML RL 151 mX7_lay := aw_in 1294 (by decide +kernel) rfl
theorem lL_155 : ML RL 155 mX7_read := aw_in 1298 (by decide +kernel) rfl
theorem qX7_327 : Cond.constantLong RX7 327 (12) ∈ aw_tb := aw_in 1302 (by decide +kernel) rfl
theorem lX7_329 : ML RX7 329 mX7_refuses := aw_in 1303 (by decide +kernel) rfl
theorem lL_159 : ML RL 159 mX7_lost := aw_in 1307 (by decide +kernel) rfl
theorem lL_163 : ML RL 163 mX7_count := aw_in 1311 (by decide +kernel) rfl
theorem qL_53 : Cond.constantLong RL 53 (4294967295) ∈ aw_tb := aw_in 1315 (by decide +kernel) rfl
-- field: ('fieldLink', 'java/lang/String', 9, 'java/lang/String', 'value', '[B')
-- field: ('fieldLink', 'java/lang/String', 15, 'java/lang/String', 'coder', 'B')
end
section
theorem dX0_init_0 : decode cX0_init 0 = .ok (.aload_n 0, 1) := by decide +kernel
theorem dX0_init_1 : decode cX0_init 1 = .ok (.invokespecial 3, 3) := by decide +kernel
theorem dX0_init_4 : decode cX0_init 4 = .ok (.aload_n 0, 1) := by decide +kernel
theorem dX0_init_5 : decode cX0_init 5 = .ok (.sipush 196, 3) := by decide +kernel
theorem dX0_init_8 : decode cX0_init 8 = .ok (.newarray .int, 2) := by decide +kernel
theorem dX0_init_10 : decode cX0_init 10 = .ok (.putfield 11, 3) := by decide +kernel
theorem dX0_init_13 : decode cX0_init 13 = .ok (.aload_n 0, 1) := by decide +kernel
theorem dX0_init_14 : decode cX0_init 14 = .ok (.bipush 14, 2) := by decide +kernel
theorem dX0_init_16 : decode cX0_init 16 = .ok (.newarray .int, 2) := by decide +kernel
theorem dX0_init_18 : decode cX0_init 18 = .ok (.putfield 15, 3) := by decide +kernel
theorem dX0_init_21 : decode cX0_init 21 = .ok (.aload_n 0, 1) := by decide +kernel
theorem dX0_init_22 : decode cX0_init 22 = .ok (.sipush 196, 3) := by decide +kernel
theorem dX0_init_25 : decode cX0_init 25 = .ok (.newarray .int, 2) := by decide +kernel
theorem dX0_init_27 : decode cX0_init 27 = .ok (.putfield 18, 3) := by decide +kernel
theorem dX0_init_30 : decode cX0_init 30 = .ok (.aload_n 0, 1) := by decide +kernel
theorem dX0_init_31 : decode cX0_init 31 = .ok (.bipush 14, 2) := by decide +kernel
theorem dX0_init_33 : decode cX0_init 33 = .ok (.newarray .int, 2) := by decide +kernel
theorem dX0_init_35 : decode cX0_init 35 = .ok (.putfield 21, 3) := by decide +kernel
theorem dX0_init_38 : decode cX0_init 38 = .ok (.aload_n 0, 1) := by decide +kernel
theorem dX0_init_39 : decode cX0_init 39 = .ok (.bipush 14, 2) := by decide +kernel
theorem dX0_init_41 : decode cX0_init 41 = .ok (.newarray .int, 2) := by decide +kernel
theorem dX0_init_43 : decode cX0_init 43 = .ok (.putfield 24, 3) := by decide +kernel
theorem dX0_init_46 : decode cX0_init 46 = .ok (.aload_n 0, 1) := by decide +kernel
theorem dX0_init_47 : decode cX0_init 47 = .ok (.bipush 14, 2) := by decide +kernel
theorem dX0_init_49 : decode cX0_init 49 = .ok (.newarray .int, 2) := by decide +kernel
theorem dX0_init_51 : decode cX0_init 51 = .ok (.putfield 27, 3) := by decide +kernel
theorem dX0_init_54 : decode cX0_init 54 = .ok (.return_, 1) := by decide +kernel
theorem dX0_clear_0 : decode cX0_clear 0 = .ok (.aload_n 0, 1) := by decide +kernel
theorem dX0_clear_1 : decode cX0_clear 1 = .ok (.getfield 11, 3) := by decide +kernel
theorem dX0_clear_4 : decode cX0_clear 4 = .ok (.iconst 0, 1) := by decide +kernel
theorem dX0_clear_5 : decode cX0_clear 5 = .ok (.invokestatic 30, 3) := by decide +kernel
theorem dX0_clear_8 : decode cX0_clear 8 = .ok (.aload_n 0, 1) := by decide +kernel
theorem dX0_clear_9 : decode cX0_clear 9 = .ok (.getfield 15, 3) := by decide +kernel
theorem dX0_clear_12 : decode cX0_clear 12 = .ok (.iconst 0, 1) := by decide +kernel
theorem dX0_clear_13 : decode cX0_clear 13 = .ok (.invokestatic 30, 3) := by decide +kernel
theorem dX0_clear_16 : decode cX0_clear 16 = .ok (.return_, 1) := by decide +kernel
theorem dX0_give_0 : decode cX0_give 0 = .ok (.aload_n 0, 1) := by decide +kernel
theorem dX0_give_1 : decode cX0_give 1 = .ok (.bipush 13, 2) := by decide +kernel
theorem dX0_give_3 : decode cX0_give 3 = .ok (.iload_n 1, 1) := by decide +kernel
theorem dX0_give_4 : decode cX0_give 4 = .ok (.iload_n 2, 1) := by decide +kernel
theorem dX0_give_5 : decode cX0_give 5 = .ok (.invokevirtual 36, 3) := by decide +kernel
theorem dX0_give_8 : decode cX0_give 8 = .ok (.return_, 1) := by decide +kernel
theorem dX0_join_0 : decode cX0_join 0 = .ok (.aload_n 0, 1) := by decide +kernel
theorem dX0_join_1 : decode cX0_join 1 = .ok (.iload_n 1, 1) := by decide +kernel
theorem dX0_join_2 : decode cX0_join 2 = .ok (.iload_n 2, 1) := by decide +kernel
theorem dX0_join_3 : decode cX0_join 3 = .ok (.iload_n 3, 1) := by decide +kernel
theorem dX0_join_4 : decode cX0_join 4 = .ok (.invokevirtual 36, 3) := by decide +kernel
theorem dX0_join_7 : decode cX0_join 7 = .ok (.aload_n 0, 1) := by decide +kernel
theorem dX0_join_8 : decode cX0_join 8 = .ok (.iload_n 2, 1) := by decide +kernel
theorem dX0_join_9 : decode cX0_join 9 = .ok (.iload_n 1, 1) := by decide +kernel
theorem dX0_join_10 : decode cX0_join 10 = .ok (.iload_n 3, 1) := by decide +kernel
theorem dX0_join_11 : decode cX0_join 11 = .ok (.invokevirtual 36, 3) := by decide +kernel
theorem dX0_join_14 : decode cX0_join 14 = .ok (.return_, 1) := by decide +kernel
theorem dX0_widen_0 : decode cX0_widen 0 = .ok (.iload_n 3, 1) := by decide +kernel
theorem dX0_widen_1 : decode cX0_widen 1 = .ok (.ifCond .le 30, 3) := by decide +kernel
theorem dX0_widen_4 : decode cX0_widen 4 = .ok (.aload_n 0, 1) := by decide +kernel
theorem dX0_widen_5 : decode cX0_widen 5 = .ok (.getfield 11, 3) := by decide +kernel
theorem dX0_widen_8 : decode cX0_widen 8 = .ok (.iload_n 1, 1) := by decide +kernel
theorem dX0_widen_9 : decode cX0_widen 9 = .ok (.bipush 14, 2) := by decide +kernel
theorem dX0_widen_11 : decode cX0_widen 11 = .ok (.imul, 1) := by decide +kernel
theorem dX0_widen_12 : decode cX0_widen 12 = .ok (.iload_n 2, 1) := by decide +kernel
theorem dX0_widen_13 : decode cX0_widen 13 = .ok (.iadd, 1) := by decide +kernel
theorem dX0_widen_14 : decode cX0_widen 14 = .ok (.dup2, 1) := by decide +kernel
theorem dX0_widen_15 : decode cX0_widen 15 = .ok (.iaload, 1) := by decide +kernel
theorem dX0_widen_16 : decode cX0_widen 16 = .ok (.iload_n 3, 1) := by decide +kernel
theorem dX0_widen_17 : decode cX0_widen 17 = .ok (.iadd, 1) := by decide +kernel
theorem dX0_widen_18 : decode cX0_widen 18 = .ok (.iastore, 1) := by decide +kernel
theorem dX0_widen_19 : decode cX0_widen 19 = .ok (.aload_n 0, 1) := by decide +kernel
theorem dX0_widen_20 : decode cX0_widen 20 = .ok (.getfield 15, 3) := by decide +kernel
theorem dX0_widen_23 : decode cX0_widen 23 = .ok (.iload_n 1, 1) := by decide +kernel
theorem dX0_widen_24 : decode cX0_widen 24 = .ok (.dup2, 1) := by decide +kernel
theorem dX0_widen_25 : decode cX0_widen 25 = .ok (.iaload, 1) := by decide +kernel
theorem dX0_widen_26 : decode cX0_widen 26 = .ok (.iconst 1, 1) := by decide +kernel
theorem dX0_widen_27 : decode cX0_widen 27 = .ok (.iload_n 2, 1) := by decide +kernel
theorem dX0_widen_28 : decode cX0_widen 28 = .ok (.ishl, 1) := by decide +kernel
theorem dX0_widen_29 : decode cX0_widen 29 = .ok (.ior, 1) := by decide +kernel
theorem dX0_widen_30 : decode cX0_widen 30 = .ok (.iastore, 1) := by decide +kernel
theorem dX0_widen_31 : decode cX0_widen 31 = .ok (.return_, 1) := by decide +kernel
theorem dX0_partCheat_0 : decode cX0_partCheat 0 = .ok (.iconst 0, 1) := by decide +kernel
theorem dX0_partCheat_1 : decode cX0_partCheat 1 = .ok (.istore_n 1, 1) := by decide +kernel
theorem dX0_partCheat_2 : decode cX0_partCheat 2 = .ok (.iload_n 1, 1) := by decide +kernel
theorem dX0_partCheat_3 : decode cX0_partCheat 3 = .ok (.bipush 14, 2) := by decide +kernel
theorem dX0_partCheat_5 : decode cX0_partCheat 5 = .ok (.if_icmp .ge 45, 3) := by decide +kernel
theorem dX0_partCheat_8 : decode cX0_partCheat 8 = .ok (.aload_n 0, 1) := by decide +kernel
theorem dX0_partCheat_9 : decode cX0_partCheat 9 = .ok (.getfield 11, 3) := by decide +kernel
theorem dX0_partCheat_12 : decode cX0_partCheat 12 = .ok (.iload_n 1, 1) := by decide +kernel
theorem dX0_partCheat_13 : decode cX0_partCheat 13 = .ok (.bipush 14, 2) := by decide +kernel
theorem dX0_partCheat_15 : decode cX0_partCheat 15 = .ok (.imul, 1) := by decide +kernel
theorem dX0_partCheat_16 : decode cX0_partCheat 16 = .ok (.bipush 12, 2) := by decide +kernel
theorem dX0_partCheat_18 : decode cX0_partCheat 18 = .ok (.iadd, 1) := by decide +kernel
theorem dX0_partCheat_19 : decode cX0_partCheat 19 = .ok (.iconst 0, 1) := by decide +kernel
theorem dX0_partCheat_20 : decode cX0_partCheat 20 = .ok (.iastore, 1) := by decide +kernel
theorem dX0_partCheat_21 : decode cX0_partCheat 21 = .ok (.aload_n 0, 1) := by decide +kernel
theorem dX0_partCheat_22 : decode cX0_partCheat 22 = .ok (.getfield 11, 3) := by decide +kernel
theorem dX0_partCheat_25 : decode cX0_partCheat 25 = .ok (.sipush 168, 3) := by decide +kernel
theorem dX0_partCheat_28 : decode cX0_partCheat 28 = .ok (.iload_n 1, 1) := by decide +kernel
theorem dX0_partCheat_29 : decode cX0_partCheat 29 = .ok (.iadd, 1) := by decide +kernel
theorem dX0_partCheat_30 : decode cX0_partCheat 30 = .ok (.iconst 0, 1) := by decide +kernel
theorem dX0_partCheat_31 : decode cX0_partCheat 31 = .ok (.iastore, 1) := by decide +kernel
theorem dX0_partCheat_32 : decode cX0_partCheat 32 = .ok (.aload_n 0, 1) := by decide +kernel
theorem dX0_partCheat_33 : decode cX0_partCheat 33 = .ok (.getfield 15, 3) := by decide +kernel
theorem dX0_partCheat_36 : decode cX0_partCheat 36 = .ok (.iload_n 1, 1) := by decide +kernel
theorem dX0_partCheat_37 : decode cX0_partCheat 37 = .ok (.dup2, 1) := by decide +kernel
theorem dX0_partCheat_38 : decode cX0_partCheat 38 = .ok (.iaload, 1) := by decide +kernel
theorem dX0_partCheat_39 : decode cX0_partCheat 39 = .ok (.sipush (-4097), 3) := by decide +kernel
theorem dX0_partCheat_42 : decode cX0_partCheat 42 = .ok (.iand, 1) := by decide +kernel
theorem dX0_partCheat_43 : decode cX0_partCheat 43 = .ok (.iastore, 1) := by decide +kernel
theorem dX0_partCheat_44 : decode cX0_partCheat 44 = .ok (.iinc 1 1, 3) := by decide +kernel
theorem dX0_partCheat_47 : decode cX0_partCheat 47 = .ok (.goto (-45), 3) := by decide +kernel
theorem dX0_partCheat_50 : decode cX0_partCheat 50 = .ok (.aload_n 0, 1) := by decide +kernel
theorem dX0_partCheat_51 : decode cX0_partCheat 51 = .ok (.getfield 15, 3) := by decide +kernel
theorem dX0_partCheat_54 : decode cX0_partCheat 54 = .ok (.bipush 12, 2) := by decide +kernel
theorem dX0_partCheat_56 : decode cX0_partCheat 56 = .ok (.iconst 0, 1) := by decide +kernel
theorem dX0_partCheat_57 : decode cX0_partCheat 57 = .ok (.iastore, 1) := by decide +kernel
theorem dX0_partCheat_58 : decode cX0_partCheat 58 = .ok (.return_, 1) := by decide +kernel
theorem dX0_most_0 : decode cX0_most 0 = .ok (.aload_n 0, 1) := by decide +kernel
theorem dX0_most_1 : decode cX0_most 1 = .ok (.getfield 11, 3) := by decide +kernel
theorem dX0_most_4 : decode cX0_most 4 = .ok (.iconst 0, 1) := by decide +kernel
theorem dX0_most_5 : decode cX0_most 5 = .ok (.aload_n 0, 1) := by decide +kernel
theorem dX0_most_6 : decode cX0_most 6 = .ok (.getfield 18, 3) := by decide +kernel
theorem dX0_most_9 : decode cX0_most 9 = .ok (.iconst 0, 1) := by decide +kernel
theorem dX0_most_10 : decode cX0_most 10 = .ok (.sipush 196, 3) := by decide +kernel
theorem dX0_most_13 : decode cX0_most 13 = .ok (.invokestatic 40, 3) := by decide +kernel
theorem dX0_most_16 : decode cX0_most 16 = .ok (.aload_n 0, 1) := by decide +kernel
theorem dX0_most_17 : decode cX0_most 17 = .ok (.getfield 15, 3) := by decide +kernel
theorem dX0_most_20 : decode cX0_most 20 = .ok (.iconst 0, 1) := by decide +kernel
theorem dX0_most_21 : decode cX0_most 21 = .ok (.aload_n 0, 1) := by decide +kernel
theorem dX0_most_22 : decode cX0_most 22 = .ok (.getfield 21, 3) := by decide +kernel
theorem dX0_most_25 : decode cX0_most 25 = .ok (.iconst 0, 1) := by decide +kernel
theorem dX0_most_26 : decode cX0_most 26 = .ok (.bipush 14, 2) := by decide +kernel
theorem dX0_most_28 : decode cX0_most 28 = .ok (.invokestatic 40, 3) := by decide +kernel
theorem dX0_most_31 : decode cX0_most 31 = .ok (.iconst 0, 1) := by decide +kernel
theorem dX0_most_32 : decode cX0_most 32 = .ok (.istore_n 2, 1) := by decide +kernel
theorem dX0_most_33 : decode cX0_most 33 = .ok (.iconst 0, 1) := by decide +kernel
theorem dX0_most_34 : decode cX0_most 34 = .ok (.istore_n 3, 1) := by decide +kernel
theorem dX0_most_35 : decode cX0_most 35 = .ok (.iload_n 3, 1) := by decide +kernel
theorem dX0_most_36 : decode cX0_most 36 = .ok (.sipush 10000, 3) := by decide +kernel
theorem dX0_most_39 : decode cX0_most 39 = .ok (.if_icmp .ge 33, 3) := by decide +kernel
theorem dX0_most_42 : decode cX0_most 42 = .ok (.aload_n 0, 1) := by decide +kernel
theorem dX0_most_43 : decode cX0_most 43 = .ok (.iload_n 1, 1) := by decide +kernel
theorem dX0_most_44 : decode cX0_most 44 = .ok (.invokevirtual 46, 3) := by decide +kernel
theorem dX0_most_47 : decode cX0_most 47 = .ok (.istore 4, 2) := by decide +kernel
theorem dX0_most_49 : decode cX0_most 49 = .ok (.iload 4, 2) := by decide +kernel
theorem dX0_most_51 : decode cX0_most 51 = .ok (.ifCond .ge 6, 3) := by decide +kernel
theorem dX0_most_54 : decode cX0_most 54 = .ok (.goto 18, 3) := by decide +kernel
theorem dX0_most_57 : decode cX0_most 57 = .ok (.iload_n 2, 1) := by decide +kernel
theorem dX0_most_58 : decode cX0_most 58 = .ok (.aload_n 0, 1) := by decide +kernel
theorem dX0_most_59 : decode cX0_most 59 = .ok (.iload 4, 2) := by decide +kernel
theorem dX0_most_61 : decode cX0_most 61 = .ok (.invokevirtual 50, 3) := by decide +kernel
theorem dX0_most_64 : decode cX0_most 64 = .ok (.iadd, 1) := by decide +kernel
theorem dX0_most_65 : decode cX0_most 65 = .ok (.istore_n 2, 1) := by decide +kernel
theorem dX0_most_66 : decode cX0_most 66 = .ok (.iinc 3 1, 3) := by decide +kernel
theorem dX0_most_69 : decode cX0_most 69 = .ok (.goto (-34), 3) := by decide +kernel
theorem dX0_most_72 : decode cX0_most 72 = .ok (.iload_n 2, 1) := by decide +kernel
theorem dX0_most_73 : decode cX0_most 73 = .ok (.ireturn, 1) := by decide +kernel
theorem dX0_search_0 : decode cX0_search 0 = .ok (.aload_n 0, 1) := by decide +kernel
theorem dX0_search_1 : decode cX0_search 1 = .ok (.sipush 8192, 3) := by decide +kernel
theorem dX0_search_4 : decode cX0_search 4 = .ok (.putfield 53, 3) := by decide +kernel
theorem dX0_search_7 : decode cX0_search 7 = .ok (.aload_n 0, 1) := by decide +kernel
theorem dX0_search_8 : decode cX0_search 8 = .ok (.getfield 27, 3) := by decide +kernel
theorem dX0_search_11 : decode cX0_search 11 = .ok (.iconst 0, 1) := by decide +kernel
theorem dX0_search_12 : decode cX0_search 12 = .ok (.bipush 13, 2) := by decide +kernel
theorem dX0_search_14 : decode cX0_search 14 = .ok (.iastore, 1) := by decide +kernel
theorem dX0_search_15 : decode cX0_search 15 = .ok (.iconst 1, 1) := by decide +kernel
theorem dX0_search_16 : decode cX0_search 16 = .ok (.istore_n 2, 1) := by decide +kernel
theorem dX0_search_17 : decode cX0_search 17 = .ok (.iconst 0, 1) := by decide +kernel
theorem dX0_search_18 : decode cX0_search 18 = .ok (.istore_n 3, 1) := by decide +kernel
theorem dX0_search_19 : decode cX0_search 19 = .ok (.iload_n 3, 1) := by decide +kernel
theorem dX0_search_20 : decode cX0_search 20 = .ok (.iload_n 2, 1) := by decide +kernel
theorem dX0_search_21 : decode cX0_search 21 = .ok (.if_icmp .ge 125, 3) := by decide +kernel
theorem dX0_search_24 : decode cX0_search 24 = .ok (.iload_n 3, 1) := by decide +kernel
theorem dX0_search_25 : decode cX0_search 25 = .ok (.bipush 14, 2) := by decide +kernel
theorem dX0_search_27 : decode cX0_search 27 = .ok (.if_icmp .ge 119, 3) := by decide +kernel
theorem dX0_search_30 : decode cX0_search 30 = .ok (.aload_n 0, 1) := by decide +kernel
theorem dX0_search_31 : decode cX0_search 31 = .ok (.getfield 27, 3) := by decide +kernel
theorem dX0_search_34 : decode cX0_search 34 = .ok (.iload_n 3, 1) := by decide +kernel
theorem dX0_search_35 : decode cX0_search 35 = .ok (.iaload, 1) := by decide +kernel
theorem dX0_search_36 : decode cX0_search 36 = .ok (.istore 4, 2) := by decide +kernel
theorem dX0_search_38 : decode cX0_search 38 = .ok (.aload_n 0, 1) := by decide +kernel
theorem dX0_search_39 : decode cX0_search 39 = .ok (.getfield 21, 3) := by decide +kernel
theorem dX0_search_42 : decode cX0_search 42 = .ok (.iload 4, 2) := by decide +kernel
theorem dX0_search_44 : decode cX0_search 44 = .ok (.iaload, 1) := by decide +kernel
theorem dX0_search_45 : decode cX0_search 45 = .ok (.aload_n 0, 1) := by decide +kernel
theorem dX0_search_46 : decode cX0_search 46 = .ok (.getfield 53, 3) := by decide +kernel
theorem dX0_search_49 : decode cX0_search 49 = .ok (.iconst (-1), 1) := by decide +kernel
theorem dX0_search_50 : decode cX0_search 50 = .ok (.ixor, 1) := by decide +kernel
theorem dX0_search_51 : decode cX0_search 51 = .ok (.iand, 1) := by decide +kernel
theorem dX0_search_52 : decode cX0_search 52 = .ok (.istore 5, 2) := by decide +kernel
theorem dX0_search_54 : decode cX0_search 54 = .ok (.aload_n 0, 1) := by decide +kernel
theorem dX0_search_55 : decode cX0_search 55 = .ok (.dup, 1) := by decide +kernel
theorem dX0_search_56 : decode cX0_search 56 = .ok (.getfield 53, 3) := by decide +kernel
theorem dX0_search_59 : decode cX0_search 59 = .ok (.iload 5, 2) := by decide +kernel
theorem dX0_search_61 : decode cX0_search 61 = .ok (.ior, 1) := by decide +kernel
theorem dX0_search_62 : decode cX0_search 62 = .ok (.putfield 53, 3) := by decide +kernel
theorem dX0_search_65 : decode cX0_search 65 = .ok (.iconst 0, 1) := by decide +kernel
theorem dX0_search_66 : decode cX0_search 66 = .ok (.istore 6, 2) := by decide +kernel
theorem dX0_search_68 : decode cX0_search 68 = .ok (.iload 6, 2) := by decide +kernel
theorem dX0_search_70 : decode cX0_search 70 = .ok (.bipush 14, 2) := by decide +kernel
theorem dX0_search_72 : decode cX0_search 72 = .ok (.if_icmp .ge 68, 3) := by decide +kernel
theorem dX0_search_75 : decode cX0_search 75 = .ok (.iload_n 2, 1) := by decide +kernel
theorem dX0_search_76 : decode cX0_search 76 = .ok (.bipush 14, 2) := by decide +kernel
theorem dX0_search_78 : decode cX0_search 78 = .ok (.if_icmp .ge 62, 3) := by decide +kernel
theorem dX0_search_81 : decode cX0_search 81 = .ok (.iload 5, 2) := by decide +kernel
theorem dX0_search_83 : decode cX0_search 83 = .ok (.iload 6, 2) := by decide +kernel
theorem dX0_search_85 : decode cX0_search 85 = .ok (.ishr, 1) := by decide +kernel
theorem dX0_search_86 : decode cX0_search 86 = .ok (.ifCond .eq 54, 3) := by decide +kernel
theorem dX0_search_89 : decode cX0_search 89 = .ok (.iload 5, 2) := by decide +kernel
theorem dX0_search_91 : decode cX0_search 91 = .ok (.iload 6, 2) := by decide +kernel
theorem dX0_search_93 : decode cX0_search 93 = .ok (.invokestatic 57, 3) := by decide +kernel
theorem dX0_search_96 : decode cX0_search 96 = .ok (.ifCond .ne 6, 3) := by decide +kernel
theorem dX0_search_99 : decode cX0_search 99 = .ok (.goto 35, 3) := by decide +kernel
theorem dX0_search_102 : decode cX0_search 102 = .ok (.aload_n 0, 1) := by decide +kernel
theorem dX0_search_103 : decode cX0_search 103 = .ok (.getfield 24, 3) := by decide +kernel
theorem dX0_search_106 : decode cX0_search 106 = .ok (.iload 6, 2) := by decide +kernel
theorem dX0_search_108 : decode cX0_search 108 = .ok (.iload 4, 2) := by decide +kernel
theorem dX0_search_110 : decode cX0_search 110 = .ok (.iastore, 1) := by decide +kernel
theorem dX0_search_111 : decode cX0_search 111 = .ok (.iload_n 1, 1) := by decide +kernel
theorem dX0_search_112 : decode cX0_search 112 = .ok (.iload 6, 2) := by decide +kernel
theorem dX0_search_114 : decode cX0_search 114 = .ok (.invokestatic 57, 3) := by decide +kernel
theorem dX0_search_117 : decode cX0_search 117 = .ok (.ifCond .eq 6, 3) := by decide +kernel
theorem dX0_search_120 : decode cX0_search 120 = .ok (.iload 6, 2) := by decide +kernel
theorem dX0_search_122 : decode cX0_search 122 = .ok (.ireturn, 1) := by decide +kernel
theorem dX0_search_123 : decode cX0_search 123 = .ok (.aload_n 0, 1) := by decide +kernel
theorem dX0_search_124 : decode cX0_search 124 = .ok (.getfield 27, 3) := by decide +kernel
theorem dX0_search_127 : decode cX0_search 127 = .ok (.iload_n 2, 1) := by decide +kernel
theorem dX0_search_128 : decode cX0_search 128 = .ok (.iload 6, 2) := by decide +kernel
theorem dX0_search_130 : decode cX0_search 130 = .ok (.iastore, 1) := by decide +kernel
theorem dX0_search_131 : decode cX0_search 131 = .ok (.iinc 2 1, 3) := by decide +kernel
theorem dX0_search_134 : decode cX0_search 134 = .ok (.iinc 6 1, 3) := by decide +kernel
theorem dX0_search_137 : decode cX0_search 137 = .ok (.goto (-69), 3) := by decide +kernel
theorem dX0_search_140 : decode cX0_search 140 = .ok (.iinc 3 1, 3) := by decide +kernel
theorem dX0_search_143 : decode cX0_search 143 = .ok (.goto (-124), 3) := by decide +kernel
theorem dX0_search_146 : decode cX0_search 146 = .ok (.bipush (-4), 2) := by decide +kernel
theorem dX0_search_148 : decode cX0_search 148 = .ok (.ireturn, 1) := by decide +kernel
theorem dX0_push_0 : decode cX0_push 0 = .ok (.aload_n 0, 1) := by decide +kernel
theorem dX0_push_1 : decode cX0_push 1 = .ok (.getfield 18, 3) := by decide +kernel
theorem dX0_push_4 : decode cX0_push 4 = .ok (.aload_n 0, 1) := by decide +kernel
theorem dX0_push_5 : decode cX0_push 5 = .ok (.getfield 24, 3) := by decide +kernel
theorem dX0_push_8 : decode cX0_push 8 = .ok (.iload_n 1, 1) := by decide +kernel
theorem dX0_push_9 : decode cX0_push 9 = .ok (.iaload, 1) := by decide +kernel
theorem dX0_push_10 : decode cX0_push 10 = .ok (.bipush 14, 2) := by decide +kernel
theorem dX0_push_12 : decode cX0_push 12 = .ok (.imul, 1) := by decide +kernel
theorem dX0_push_13 : decode cX0_push 13 = .ok (.iload_n 1, 1) := by decide +kernel
theorem dX0_push_14 : decode cX0_push 14 = .ok (.iadd, 1) := by decide +kernel
theorem dX0_push_15 : decode cX0_push 15 = .ok (.iaload, 1) := by decide +kernel
theorem dX0_push_16 : decode cX0_push 16 = .ok (.istore_n 2, 1) := by decide +kernel
theorem dX0_push_17 : decode cX0_push 17 = .ok (.iload_n 1, 1) := by decide +kernel
theorem dX0_push_18 : decode cX0_push 18 = .ok (.istore_n 3, 1) := by decide +kernel
theorem dX0_push_19 : decode cX0_push 19 = .ok (.iconst 0, 1) := by decide +kernel
theorem dX0_push_20 : decode cX0_push 20 = .ok (.istore 4, 2) := by decide +kernel
theorem dX0_push_22 : decode cX0_push 22 = .ok (.iload 4, 2) := by decide +kernel
theorem dX0_push_24 : decode cX0_push 24 = .ok (.bipush 14, 2) := by decide +kernel
theorem dX0_push_26 : decode cX0_push 26 = .ok (.if_icmp .ge 43, 3) := by decide +kernel
theorem dX0_push_29 : decode cX0_push 29 = .ok (.iload_n 3, 1) := by decide +kernel
theorem dX0_push_30 : decode cX0_push 30 = .ok (.bipush 13, 2) := by decide +kernel
theorem dX0_push_32 : decode cX0_push 32 = .ok (.if_icmp .eq 37, 3) := by decide +kernel
theorem dX0_push_35 : decode cX0_push 35 = .ok (.iload_n 2, 1) := by decide +kernel
theorem dX0_push_36 : decode cX0_push 36 = .ok (.aload_n 0, 1) := by decide +kernel
theorem dX0_push_37 : decode cX0_push 37 = .ok (.getfield 18, 3) := by decide +kernel
theorem dX0_push_40 : decode cX0_push 40 = .ok (.aload_n 0, 1) := by decide +kernel
theorem dX0_push_41 : decode cX0_push 41 = .ok (.getfield 24, 3) := by decide +kernel
theorem dX0_push_44 : decode cX0_push 44 = .ok (.iload_n 3, 1) := by decide +kernel
theorem dX0_push_45 : decode cX0_push 45 = .ok (.iaload, 1) := by decide +kernel
theorem dX0_push_46 : decode cX0_push 46 = .ok (.bipush 14, 2) := by decide +kernel
theorem dX0_push_48 : decode cX0_push 48 = .ok (.imul, 1) := by decide +kernel
theorem dX0_push_49 : decode cX0_push 49 = .ok (.iload_n 3, 1) := by decide +kernel
theorem dX0_push_50 : decode cX0_push 50 = .ok (.iadd, 1) := by decide +kernel
theorem dX0_push_51 : decode cX0_push 51 = .ok (.iaload, 1) := by decide +kernel
theorem dX0_push_52 : decode cX0_push 52 = .ok (.invokestatic 61, 3) := by decide +kernel
theorem dX0_push_55 : decode cX0_push 55 = .ok (.istore_n 2, 1) := by decide +kernel
theorem dX0_push_56 : decode cX0_push 56 = .ok (.aload_n 0, 1) := by decide +kernel
theorem dX0_push_57 : decode cX0_push 57 = .ok (.getfield 24, 3) := by decide +kernel
theorem dX0_push_60 : decode cX0_push 60 = .ok (.iload_n 3, 1) := by decide +kernel
theorem dX0_push_61 : decode cX0_push 61 = .ok (.iaload, 1) := by decide +kernel
theorem dX0_push_62 : decode cX0_push 62 = .ok (.istore_n 3, 1) := by decide +kernel
theorem dX0_push_63 : decode cX0_push 63 = .ok (.iinc 4 1, 3) := by decide +kernel
theorem dX0_push_66 : decode cX0_push 66 = .ok (.goto (-44), 3) := by decide +kernel
theorem dX0_push_69 : decode cX0_push 69 = .ok (.iload_n 1, 1) := by decide +kernel
theorem dX0_push_70 : decode cX0_push 70 = .ok (.istore_n 3, 1) := by decide +kernel
theorem dX0_push_71 : decode cX0_push 71 = .ok (.iconst 0, 1) := by decide +kernel
theorem dX0_push_72 : decode cX0_push 72 = .ok (.istore 4, 2) := by decide +kernel
theorem dX0_push_74 : decode cX0_push 74 = .ok (.iload 4, 2) := by decide +kernel
theorem dX0_push_76 : decode cX0_push 76 = .ok (.bipush 14, 2) := by decide +kernel
theorem dX0_push_78 : decode cX0_push 78 = .ok (.if_icmp .ge 101, 3) := by decide +kernel
theorem dX0_push_81 : decode cX0_push 81 = .ok (.iload_n 3, 1) := by decide +kernel
theorem dX0_push_82 : decode cX0_push 82 = .ok (.bipush 13, 2) := by decide +kernel
theorem dX0_push_84 : decode cX0_push 84 = .ok (.if_icmp .eq 95, 3) := by decide +kernel
theorem dX0_push_87 : decode cX0_push 87 = .ok (.aload_n 0, 1) := by decide +kernel
theorem dX0_push_88 : decode cX0_push 88 = .ok (.getfield 24, 3) := by decide +kernel
theorem dX0_push_91 : decode cX0_push 91 = .ok (.iload_n 3, 1) := by decide +kernel
theorem dX0_push_92 : decode cX0_push 92 = .ok (.iaload, 1) := by decide +kernel
theorem dX0_push_93 : decode cX0_push 93 = .ok (.istore 5, 2) := by decide +kernel
theorem dX0_push_95 : decode cX0_push 95 = .ok (.aload_n 0, 1) := by decide +kernel
theorem dX0_push_96 : decode cX0_push 96 = .ok (.getfield 18, 3) := by decide +kernel
theorem dX0_push_99 : decode cX0_push 99 = .ok (.iload 5, 2) := by decide +kernel
theorem dX0_push_101 : decode cX0_push 101 = .ok (.bipush 14, 2) := by decide +kernel
theorem dX0_push_103 : decode cX0_push 103 = .ok (.imul, 1) := by decide +kernel
theorem dX0_push_104 : decode cX0_push 104 = .ok (.iload_n 3, 1) := by decide +kernel
theorem dX0_push_105 : decode cX0_push 105 = .ok (.iadd, 1) := by decide +kernel
theorem dX0_push_106 : decode cX0_push 106 = .ok (.dup2, 1) := by decide +kernel
theorem dX0_push_107 : decode cX0_push 107 = .ok (.iaload, 1) := by decide +kernel
theorem dX0_push_108 : decode cX0_push 108 = .ok (.iload_n 2, 1) := by decide +kernel
theorem dX0_push_109 : decode cX0_push 109 = .ok (.isub, 1) := by decide +kernel
theorem dX0_push_110 : decode cX0_push 110 = .ok (.iastore, 1) := by decide +kernel
theorem dX0_push_111 : decode cX0_push 111 = .ok (.aload_n 0, 1) := by decide +kernel
theorem dX0_push_112 : decode cX0_push 112 = .ok (.getfield 18, 3) := by decide +kernel
theorem dX0_push_115 : decode cX0_push 115 = .ok (.iload_n 3, 1) := by decide +kernel
theorem dX0_push_116 : decode cX0_push 116 = .ok (.bipush 14, 2) := by decide +kernel
theorem dX0_push_118 : decode cX0_push 118 = .ok (.imul, 1) := by decide +kernel
theorem dX0_push_119 : decode cX0_push 119 = .ok (.iload 5, 2) := by decide +kernel
theorem dX0_push_121 : decode cX0_push 121 = .ok (.iadd, 1) := by decide +kernel
theorem dX0_push_122 : decode cX0_push 122 = .ok (.dup2, 1) := by decide +kernel
theorem dX0_push_123 : decode cX0_push 123 = .ok (.iaload, 1) := by decide +kernel
theorem dX0_push_124 : decode cX0_push 124 = .ok (.iload_n 2, 1) := by decide +kernel
theorem dX0_push_125 : decode cX0_push 125 = .ok (.iadd, 1) := by decide +kernel
theorem dX0_push_126 : decode cX0_push 126 = .ok (.iastore, 1) := by decide +kernel
theorem dX0_push_127 : decode cX0_push 127 = .ok (.aload_n 0, 1) := by decide +kernel
theorem dX0_push_128 : decode cX0_push 128 = .ok (.getfield 21, 3) := by decide +kernel
theorem dX0_push_131 : decode cX0_push 131 = .ok (.iload_n 3, 1) := by decide +kernel
theorem dX0_push_132 : decode cX0_push 132 = .ok (.dup2, 1) := by decide +kernel
theorem dX0_push_133 : decode cX0_push 133 = .ok (.iaload, 1) := by decide +kernel
theorem dX0_push_134 : decode cX0_push 134 = .ok (.iconst 1, 1) := by decide +kernel
theorem dX0_push_135 : decode cX0_push 135 = .ok (.iload 5, 2) := by decide +kernel
theorem dX0_push_137 : decode cX0_push 137 = .ok (.ishl, 1) := by decide +kernel
theorem dX0_push_138 : decode cX0_push 138 = .ok (.ior, 1) := by decide +kernel
theorem dX0_push_139 : decode cX0_push 139 = .ok (.iastore, 1) := by decide +kernel
theorem dX0_push_140 : decode cX0_push 140 = .ok (.aload_n 0, 1) := by decide +kernel
theorem dX0_push_141 : decode cX0_push 141 = .ok (.getfield 18, 3) := by decide +kernel
theorem dX0_push_144 : decode cX0_push 144 = .ok (.iload 5, 2) := by decide +kernel
theorem dX0_push_146 : decode cX0_push 146 = .ok (.bipush 14, 2) := by decide +kernel
theorem dX0_push_148 : decode cX0_push 148 = .ok (.imul, 1) := by decide +kernel
theorem dX0_push_149 : decode cX0_push 149 = .ok (.iload_n 3, 1) := by decide +kernel
theorem dX0_push_150 : decode cX0_push 150 = .ok (.iadd, 1) := by decide +kernel
theorem dX0_push_151 : decode cX0_push 151 = .ok (.iaload, 1) := by decide +kernel
theorem dX0_push_152 : decode cX0_push 152 = .ok (.ifCond .gt 18, 3) := by decide +kernel
theorem dX0_push_155 : decode cX0_push 155 = .ok (.aload_n 0, 1) := by decide +kernel
theorem dX0_push_156 : decode cX0_push 156 = .ok (.getfield 21, 3) := by decide +kernel
theorem dX0_push_159 : decode cX0_push 159 = .ok (.iload 5, 2) := by decide +kernel
theorem dX0_push_161 : decode cX0_push 161 = .ok (.dup2, 1) := by decide +kernel
theorem dX0_push_162 : decode cX0_push 162 = .ok (.iaload, 1) := by decide +kernel
theorem dX0_push_163 : decode cX0_push 163 = .ok (.iconst 1, 1) := by decide +kernel
theorem dX0_push_164 : decode cX0_push 164 = .ok (.iload_n 3, 1) := by decide +kernel
theorem dX0_push_165 : decode cX0_push 165 = .ok (.ishl, 1) := by decide +kernel
theorem dX0_push_166 : decode cX0_push 166 = .ok (.iconst (-1), 1) := by decide +kernel
theorem dX0_push_167 : decode cX0_push 167 = .ok (.ixor, 1) := by decide +kernel
theorem dX0_push_168 : decode cX0_push 168 = .ok (.iand, 1) := by decide +kernel
theorem dX0_push_169 : decode cX0_push 169 = .ok (.iastore, 1) := by decide +kernel
theorem dX0_push_170 : decode cX0_push 170 = .ok (.iload 5, 2) := by decide +kernel
theorem dX0_push_172 : decode cX0_push 172 = .ok (.istore_n 3, 1) := by decide +kernel
theorem dX0_push_173 : decode cX0_push 173 = .ok (.iinc 4 1, 3) := by decide +kernel
theorem dX0_push_176 : decode cX0_push 176 = .ok (.goto (-102), 3) := by decide +kernel
theorem dX0_push_179 : decode cX0_push 179 = .ok (.iload_n 2, 1) := by decide +kernel
theorem dX0_push_180 : decode cX0_push 180 = .ok (.ireturn, 1) := by decide +kernel
theorem dX1_init_0 : decode cX1_init 0 = .ok (.aload_n 0, 1) := by decide +kernel
theorem dX1_init_1 : decode cX1_init 1 = .ok (.invokespecial 3, 3) := by decide +kernel
theorem dX1_init_4 : decode cX1_init 4 = .ok (.aload_n 0, 1) := by decide +kernel
theorem dX1_init_5 : decode cX1_init 5 = .ok (.bipush 12, 2) := by decide +kernel
theorem dX1_init_7 : decode cX1_init 7 = .ok (.newarray .int, 2) := by decide +kernel
theorem dX1_init_9 : decode cX1_init 9 = .ok (.putfield 9, 3) := by decide +kernel
theorem dX1_init_12 : decode cX1_init 12 = .ok (.aload_n 0, 1) := by decide +kernel
theorem dX1_init_13 : decode cX1_init 13 = .ok (.bipush 12, 2) := by decide +kernel
theorem dX1_init_15 : decode cX1_init 15 = .ok (.newarray .boolean, 2) := by decide +kernel
theorem dX1_init_17 : decode cX1_init 17 = .ok (.putfield 15, 3) := by decide +kernel
theorem dX1_init_20 : decode cX1_init 20 = .ok (.aload_n 0, 1) := by decide +kernel
theorem dX1_init_21 : decode cX1_init 21 = .ok (.bipush 12, 2) := by decide +kernel
theorem dX1_init_23 : decode cX1_init 23 = .ok (.newarray .boolean, 2) := by decide +kernel
theorem dX1_init_25 : decode cX1_init 25 = .ok (.putfield 19, 3) := by decide +kernel
theorem dX1_init_28 : decode cX1_init 28 = .ok (.aload_n 0, 1) := by decide +kernel
theorem dX1_init_29 : decode cX1_init 29 = .ok (.bipush 12, 2) := by decide +kernel
theorem dX1_init_31 : decode cX1_init 31 = .ok (.newarray .int, 2) := by decide +kernel
theorem dX1_init_33 : decode cX1_init 33 = .ok (.putfield 22, 3) := by decide +kernel
theorem dX1_init_36 : decode cX1_init 36 = .ok (.aload_n 0, 1) := by decide +kernel
theorem dX1_init_37 : decode cX1_init 37 = .ok (.bipush 12, 2) := by decide +kernel
theorem dX1_init_39 : decode cX1_init 39 = .ok (.newarray .int, 2) := by decide +kernel
theorem dX1_init_41 : decode cX1_init 41 = .ok (.putfield 25, 3) := by decide +kernel
theorem dX1_init_44 : decode cX1_init 44 = .ok (.return_, 1) := by decide +kernel
theorem dX1_enter_0 : decode cX1_enter 0 = .ok (.aload_n 0, 1) := by decide +kernel
theorem dX1_enter_1 : decode cX1_enter 1 = .ok (.getfield 28, 3) := by decide +kernel
theorem dX1_enter_4 : decode cX1_enter 4 = .ok (.bipush 12, 2) := by decide +kernel
theorem dX1_enter_6 : decode cX1_enter 6 = .ok (.if_icmp .lt 6, 3) := by decide +kernel
theorem dX1_enter_9 : decode cX1_enter 9 = .ok (.bipush (-3), 2) := by decide +kernel
theorem dX1_enter_11 : decode cX1_enter 11 = .ok (.ireturn, 1) := by decide +kernel
theorem dX1_enter_12 : decode cX1_enter 12 = .ok (.aload_n 0, 1) := by decide +kernel
theorem dX1_enter_13 : decode cX1_enter 13 = .ok (.getfield 9, 3) := by decide +kernel
theorem dX1_enter_16 : decode cX1_enter 16 = .ok (.aload_n 0, 1) := by decide +kernel
theorem dX1_enter_17 : decode cX1_enter 17 = .ok (.getfield 28, 3) := by decide +kernel
theorem dX1_enter_20 : decode cX1_enter 20 = .ok (.iload_n 1, 1) := by decide +kernel
theorem dX1_enter_21 : decode cX1_enter 21 = .ok (.iastore, 1) := by decide +kernel
theorem dX1_enter_22 : decode cX1_enter 22 = .ok (.aload_n 0, 1) := by decide +kernel
theorem dX1_enter_23 : decode cX1_enter 23 = .ok (.dup, 1) := by decide +kernel
theorem dX1_enter_24 : decode cX1_enter 24 = .ok (.getfield 28, 3) := by decide +kernel
theorem dX1_enter_27 : decode cX1_enter 27 = .ok (.dup_x1, 1) := by decide +kernel
theorem dX1_enter_28 : decode cX1_enter 28 = .ok (.iconst 1, 1) := by decide +kernel
theorem dX1_enter_29 : decode cX1_enter 29 = .ok (.iadd, 1) := by decide +kernel
theorem dX1_enter_30 : decode cX1_enter 30 = .ok (.putfield 28, 3) := by decide +kernel
theorem dX1_enter_33 : decode cX1_enter 33 = .ok (.ireturn, 1) := by decide +kernel
theorem dX2_init_0 : decode cX2_init 0 = .ok (.aload_n 0, 1) := by decide +kernel
theorem dX2_init_1 : decode cX2_init 1 = .ok (.invokespecial 3, 3) := by decide +kernel
theorem dX2_init_4 : decode cX2_init 4 = .ok (.aload_n 0, 1) := by decide +kernel
theorem dX2_init_5 : decode cX2_init 5 = .ok (.bipush 48, 2) := by decide +kernel
theorem dX2_init_7 : decode cX2_init 7 = .ok (.newarray .int, 2) := by decide +kernel
theorem dX2_init_9 : decode cX2_init 9 = .ok (.putfield 11, 3) := by decide +kernel
theorem dX2_init_12 : decode cX2_init 12 = .ok (.aload_n 0, 1) := by decide +kernel
theorem dX2_init_13 : decode cX2_init 13 = .ok (.iconst (-1), 1) := by decide +kernel
theorem dX2_init_14 : decode cX2_init 14 = .ok (.putfield 15, 3) := by decide +kernel
theorem dX2_init_17 : decode cX2_init 17 = .ok (.return_, 1) := by decide +kernel
theorem dX2_isNothing_0 : decode cX2_isNothing 0 = .ok (.aload_n 0, 1) := by decide +kernel
theorem dX2_isNothing_1 : decode cX2_isNothing 1 = .ok (.getfield 15, 3) := by decide +kernel
theorem dX2_isNothing_4 : decode cX2_isNothing 4 = .ok (.iconst (-1), 1) := by decide +kernel
theorem dX2_isNothing_5 : decode cX2_isNothing 5 = .ok (.if_icmp .ne 7, 3) := by decide +kernel
theorem dX2_isNothing_8 : decode cX2_isNothing 8 = .ok (.iconst 1, 1) := by decide +kernel
theorem dX2_isNothing_9 : decode cX2_isNothing 9 = .ok (.goto 4, 3) := by decide +kernel
theorem dX2_isNothing_12 : decode cX2_isNothing 12 = .ok (.iconst 0, 1) := by decide +kernel
theorem dX2_isNothing_13 : decode cX2_isNothing 13 = .ok (.ireturn, 1) := by decide +kernel
theorem dX2_renewRow_0 : decode cX2_renewRow 0 = .ok (.aload_n 0, 1) := by decide +kernel
theorem dX2_renewRow_1 : decode cX2_renewRow 1 = .ok (.getfield 11, 3) := by decide +kernel
theorem dX2_renewRow_4 : decode cX2_renewRow 4 = .ok (.iconst 0, 1) := by decide +kernel
theorem dX2_renewRow_5 : decode cX2_renewRow 5 = .ok (.invokestatic 19, 3) := by decide +kernel
theorem dX2_renewRow_8 : decode cX2_renewRow 8 = .ok (.aload_n 0, 1) := by decide +kernel
theorem dX2_renewRow_9 : decode cX2_renewRow 9 = .ok (.iload_n 1, 1) := by decide +kernel
theorem dX2_renewRow_10 : decode cX2_renewRow 10 = .ok (.putfield 25, 3) := by decide +kernel
theorem dX2_renewRow_13 : decode cX2_renewRow 13 = .ok (.aload_n 0, 1) := by decide +kernel
theorem dX2_renewRow_14 : decode cX2_renewRow 14 = .ok (.iload_n 2, 1) := by decide +kernel
theorem dX2_renewRow_15 : decode cX2_renewRow 15 = .ok (.putfield 15, 3) := by decide +kernel
theorem dX2_renewRow_18 : decode cX2_renewRow 18 = .ok (.return_, 1) := by decide +kernel
theorem dX2_faultAt_0 : decode cX2_faultAt 0 = .ok (.aload_n 0, 1) := by decide +kernel
theorem dX2_faultAt_1 : decode cX2_faultAt 1 = .ok (.invokevirtual 28, 3) := by decide +kernel
theorem dX2_faultAt_4 : decode cX2_faultAt 4 = .ok (.ifCond .eq 5, 3) := by decide +kernel
theorem dX2_faultAt_7 : decode cX2_faultAt 7 = .ok (.iconst 1, 1) := by decide +kernel
theorem dX2_faultAt_8 : decode cX2_faultAt 8 = .ok (.ireturn, 1) := by decide +kernel
theorem dX2_faultAt_9 : decode cX2_faultAt 9 = .ok (.iload_n 1, 1) := by decide +kernel
theorem dX2_faultAt_10 : decode cX2_faultAt 10 = .ok (.iconst 0, 1) := by decide +kernel
theorem dX2_faultAt_11 : decode cX2_faultAt 11 = .ok (.aload_n 0, 1) := by decide +kernel
theorem dX2_faultAt_12 : decode cX2_faultAt 12 = .ok (.getfield 15, 3) := by decide +kernel
theorem dX2_faultAt_15 : decode cX2_faultAt 15 = .ok (.iconst 1, 1) := by decide +kernel
theorem dX2_faultAt_16 : decode cX2_faultAt 16 = .ok (.isub, 1) := by decide +kernel
theorem dX2_faultAt_17 : decode cX2_faultAt 17 = .ok (.invokestatic 32, 3) := by decide +kernel
theorem dX2_faultAt_20 : decode cX2_faultAt 20 = .ok (.ifCond .eq 7, 3) := by decide +kernel
theorem dX2_faultAt_23 : decode cX2_faultAt 23 = .ok (.iconst 0, 1) := by decide +kernel
theorem dX2_faultAt_24 : decode cX2_faultAt 24 = .ok (.goto 4, 3) := by decide +kernel
theorem dX2_faultAt_27 : decode cX2_faultAt 27 = .ok (.iconst 2, 1) := by decide +kernel
theorem dX2_faultAt_28 : decode cX2_faultAt 28 = .ok (.ireturn, 1) := by decide +kernel
theorem dX2_put_0 : decode cX2_put 0 = .ok (.iload_n 1, 1) := by decide +kernel
theorem dX2_put_1 : decode cX2_put 1 = .ok (.iconst 0, 1) := by decide +kernel
theorem dX2_put_2 : decode cX2_put 2 = .ok (.aload_n 0, 1) := by decide +kernel
theorem dX2_put_3 : decode cX2_put 3 = .ok (.getfield 15, 3) := by decide +kernel
theorem dX2_put_6 : decode cX2_put 6 = .ok (.iconst 1, 1) := by decide +kernel
theorem dX2_put_7 : decode cX2_put 7 = .ok (.isub, 1) := by decide +kernel
theorem dX2_put_8 : decode cX2_put 8 = .ok (.invokestatic 32, 3) := by decide +kernel
theorem dX2_put_11 : decode cX2_put 11 = .ok (.ifCond .ne 4, 3) := by decide +kernel
theorem dX2_put_14 : decode cX2_put 14 = .ok (.return_, 1) := by decide +kernel
theorem dX2_put_15 : decode cX2_put 15 = .ok (.aload_n 0, 1) := by decide +kernel
theorem dX2_put_16 : decode cX2_put 16 = .ok (.getfield 25, 3) := by decide +kernel
theorem dX2_put_19 : decode cX2_put 19 = .ok (.lookupswitch 47 #[(0, 25), (1, 36)], 25) := by decide +kernel
theorem dX2_put_44 : decode cX2_put 44 = .ok (.aload_n 0, 1) := by decide +kernel
theorem dX2_put_45 : decode cX2_put 45 = .ok (.getfield 11, 3) := by decide +kernel
theorem dX2_put_48 : decode cX2_put 48 = .ok (.iload_n 1, 1) := by decide +kernel
theorem dX2_put_49 : decode cX2_put 49 = .ok (.iload_n 2, 1) := by decide +kernel
theorem dX2_put_50 : decode cX2_put 50 = .ok (.i2b, 1) := by decide +kernel
theorem dX2_put_51 : decode cX2_put 51 = .ok (.iastore, 1) := by decide +kernel
theorem dX2_put_52 : decode cX2_put 52 = .ok (.goto 21, 3) := by decide +kernel
theorem dX2_put_55 : decode cX2_put 55 = .ok (.aload_n 0, 1) := by decide +kernel
theorem dX2_put_56 : decode cX2_put 56 = .ok (.getfield 11, 3) := by decide +kernel
theorem dX2_put_59 : decode cX2_put 59 = .ok (.iload_n 1, 1) := by decide +kernel
theorem dX2_put_60 : decode cX2_put 60 = .ok (.iload_n 2, 1) := by decide +kernel
theorem dX2_put_61 : decode cX2_put 61 = .ok (.i2s, 1) := by decide +kernel
theorem dX2_put_62 : decode cX2_put 62 = .ok (.iastore, 1) := by decide +kernel
theorem dX2_put_63 : decode cX2_put 63 = .ok (.goto 10, 3) := by decide +kernel
theorem dX2_put_66 : decode cX2_put 66 = .ok (.aload_n 0, 1) := by decide +kernel
theorem dX2_put_67 : decode cX2_put 67 = .ok (.getfield 11, 3) := by decide +kernel
theorem dX2_put_70 : decode cX2_put 70 = .ok (.iload_n 1, 1) := by decide +kernel
theorem dX2_put_71 : decode cX2_put 71 = .ok (.iload_n 2, 1) := by decide +kernel
theorem dX2_put_72 : decode cX2_put 72 = .ok (.iastore, 1) := by decide +kernel
theorem dX2_put_73 : decode cX2_put 73 = .ok (.return_, 1) := by decide +kernel
theorem dX2_wholeWords_0 : decode cX2_wholeWords 0 = .ok (.aload_n 0, 1) := by decide +kernel
theorem dX2_wholeWords_1 : decode cX2_wholeWords 1 = .ok (.invokevirtual 28, 3) := by decide +kernel
theorem dX2_wholeWords_4 : decode cX2_wholeWords 4 = .ok (.ifCond .ne 23, 3) := by decide +kernel
theorem dX2_wholeWords_7 : decode cX2_wholeWords 7 = .ok (.aload_n 0, 1) := by decide +kernel
theorem dX2_wholeWords_8 : decode cX2_wholeWords 8 = .ok (.getfield 25, 3) := by decide +kernel
theorem dX2_wholeWords_11 : decode cX2_wholeWords 11 = .ok (.iload_n 1, 1) := by decide +kernel
theorem dX2_wholeWords_12 : decode cX2_wholeWords 12 = .ok (.if_icmp .ne 15, 3) := by decide +kernel
theorem dX2_wholeWords_15 : decode cX2_wholeWords 15 = .ok (.iload_n 2, 1) := by decide +kernel
theorem dX2_wholeWords_16 : decode cX2_wholeWords 16 = .ok (.iconst 0, 1) := by decide +kernel
theorem dX2_wholeWords_17 : decode cX2_wholeWords 17 = .ok (.aload_n 0, 1) := by decide +kernel
theorem dX2_wholeWords_18 : decode cX2_wholeWords 18 = .ok (.getfield 15, 3) := by decide +kernel
theorem dX2_wholeWords_21 : decode cX2_wholeWords 21 = .ok (.invokestatic 32, 3) := by decide +kernel
theorem dX2_wholeWords_24 : decode cX2_wholeWords 24 = .ok (.ifCond .ne 5, 3) := by decide +kernel
theorem dX2_wholeWords_27 : decode cX2_wholeWords 27 = .ok (.iconst 0, 1) := by decide +kernel
theorem dX2_wholeWords_28 : decode cX2_wholeWords 28 = .ok (.ireturn, 1) := by decide +kernel
theorem dX2_wholeWords_29 : decode cX2_wholeWords 29 = .ok (.iload_n 3, 1) := by decide +kernel
theorem dX2_wholeWords_30 : decode cX2_wholeWords 30 = .ok (.aload_n 0, 1) := by decide +kernel
theorem dX2_wholeWords_31 : decode cX2_wholeWords 31 = .ok (.getfield 15, 3) := by decide +kernel
theorem dX2_wholeWords_34 : decode cX2_wholeWords 34 = .ok (.iload_n 2, 1) := by decide +kernel
theorem dX2_wholeWords_35 : decode cX2_wholeWords 35 = .ok (.isub, 1) := by decide +kernel
theorem dX2_wholeWords_36 : decode cX2_wholeWords 36 = .ok (.iconst 4, 1) := by decide +kernel
theorem dX2_wholeWords_37 : decode cX2_wholeWords 37 = .ok (.idiv, 1) := by decide +kernel
theorem dX2_wholeWords_38 : decode cX2_wholeWords 38 = .ok (.invokestatic 36, 3) := by decide +kernel
theorem dX2_wholeWords_41 : decode cX2_wholeWords 41 = .ok (.ireturn, 1) := by decide +kernel
theorem dX2_faultOfReading_0 : decode cX2_faultOfReading 0 = .ok (.iload_n 3, 1) := by decide +kernel
theorem dX2_faultOfReading_1 : decode cX2_faultOfReading 1 = .ok (.iload_n 2, 1) := by decide +kernel
theorem dX2_faultOfReading_2 : decode cX2_faultOfReading 2 = .ok (.if_icmp .ne 5, 3) := by decide +kernel
theorem dX2_faultOfReading_5 : decode cX2_faultOfReading 5 = .ok (.iconst 0, 1) := by decide +kernel
theorem dX2_faultOfReading_6 : decode cX2_faultOfReading 6 = .ok (.ireturn, 1) := by decide +kernel
theorem dX2_faultOfReading_7 : decode cX2_faultOfReading 7 = .ok (.aload_n 0, 1) := by decide +kernel
theorem dX2_faultOfReading_8 : decode cX2_faultOfReading 8 = .ok (.invokevirtual 28, 3) := by decide +kernel
theorem dX2_faultOfReading_11 : decode cX2_faultOfReading 11 = .ok (.ifCond .eq 5, 3) := by decide +kernel
theorem dX2_faultOfReading_14 : decode cX2_faultOfReading 14 = .ok (.iconst 1, 1) := by decide +kernel
theorem dX2_faultOfReading_15 : decode cX2_faultOfReading 15 = .ok (.ireturn, 1) := by decide +kernel
theorem dX2_faultOfReading_16 : decode cX2_faultOfReading 16 = .ok (.aload_n 0, 1) := by decide +kernel
theorem dX2_faultOfReading_17 : decode cX2_faultOfReading 17 = .ok (.getfield 25, 3) := by decide +kernel
theorem dX2_faultOfReading_20 : decode cX2_faultOfReading 20 = .ok (.iload_n 1, 1) := by decide +kernel
theorem dX2_faultOfReading_21 : decode cX2_faultOfReading 21 = .ok (.if_icmp .ne 7, 3) := by decide +kernel
theorem dX2_faultOfReading_24 : decode cX2_faultOfReading 24 = .ok (.iconst 2, 1) := by decide +kernel
theorem dX2_faultOfReading_25 : decode cX2_faultOfReading 25 = .ok (.goto 4, 3) := by decide +kernel
theorem dX2_faultOfReading_28 : decode cX2_faultOfReading 28 = .ok (.iconst 3, 1) := by decide +kernel
theorem dX2_faultOfReading_29 : decode cX2_faultOfReading 29 = .ok (.ireturn, 1) := by decide +kernel
theorem dX3_init_0 : decode cX3_init 0 = .ok (.aload_n 0, 1) := by decide +kernel
theorem dX3_init_1 : decode cX3_init 1 = .ok (.invokespecial 3, 3) := by decide +kernel
theorem dX3_init_4 : decode cX3_init 4 = .ok (.aload_n 0, 1) := by decide +kernel
theorem dX3_init_5 : decode cX3_init 5 = .ok (.sipush 200, 3) := by decide +kernel
theorem dX3_init_8 : decode cX3_init 8 = .ok (.newarray .int, 2) := by decide +kernel
theorem dX3_init_10 : decode cX3_init 10 = .ok (.putfield 11, 3) := by decide +kernel
theorem dX3_init_13 : decode cX3_init 13 = .ok (.return_, 1) := by decide +kernel
theorem dX3_takeEight_0 : decode cX3_takeEight 0 = .ok (.aload_n 0, 1) := by decide +kernel
theorem dX3_takeEight_1 : decode cX3_takeEight 1 = .ok (.getfield 15, 3) := by decide +kernel
theorem dX3_takeEight_4 : decode cX3_takeEight 4 = .ok (.sipush 192, 3) := by decide +kernel
theorem dX3_takeEight_7 : decode cX3_takeEight 7 = .ok (.if_icmp .le 6, 3) := by decide +kernel
theorem dX3_takeEight_10 : decode cX3_takeEight 10 = .ok (.bipush (-3), 2) := by decide +kernel
theorem dX3_takeEight_12 : decode cX3_takeEight 12 = .ok (.ireturn, 1) := by decide +kernel
theorem dX3_takeEight_13 : decode cX3_takeEight 13 = .ok (.bipush 56, 2) := by decide +kernel
theorem dX3_takeEight_15 : decode cX3_takeEight 15 = .ok (.istore_n 3, 1) := by decide +kernel
theorem dX3_takeEight_16 : decode cX3_takeEight 16 = .ok (.iload_n 3, 1) := by decide +kernel
theorem dX3_takeEight_17 : decode cX3_takeEight 17 = .ok (.ifCond .lt 36, 3) := by decide +kernel
theorem dX3_takeEight_20 : decode cX3_takeEight 20 = .ok (.aload_n 0, 1) := by decide +kernel
theorem dX3_takeEight_21 : decode cX3_takeEight 21 = .ok (.getfield 11, 3) := by decide +kernel
theorem dX3_takeEight_24 : decode cX3_takeEight 24 = .ok (.aload_n 0, 1) := by decide +kernel
theorem dX3_takeEight_25 : decode cX3_takeEight 25 = .ok (.getfield 15, 3) := by decide +kernel
theorem dX3_takeEight_28 : decode cX3_takeEight 28 = .ok (.lload_n 1, 1) := by decide +kernel
theorem dX3_takeEight_29 : decode cX3_takeEight 29 = .ok (.iload_n 3, 1) := by decide +kernel
theorem dX3_takeEight_30 : decode cX3_takeEight 30 = .ok (.lushr, 1) := by decide +kernel
theorem dX3_takeEight_31 : decode cX3_takeEight 31 = .ok (.l2i, 1) := by decide +kernel
theorem dX3_takeEight_32 : decode cX3_takeEight 32 = .ok (.sipush 255, 3) := by decide +kernel
theorem dX3_takeEight_35 : decode cX3_takeEight 35 = .ok (.iand, 1) := by decide +kernel
theorem dX3_takeEight_36 : decode cX3_takeEight 36 = .ok (.iastore, 1) := by decide +kernel
theorem dX3_takeEight_37 : decode cX3_takeEight 37 = .ok (.aload_n 0, 1) := by decide +kernel
theorem dX3_takeEight_38 : decode cX3_takeEight 38 = .ok (.dup, 1) := by decide +kernel
theorem dX3_takeEight_39 : decode cX3_takeEight 39 = .ok (.getfield 15, 3) := by decide +kernel
theorem dX3_takeEight_42 : decode cX3_takeEight 42 = .ok (.iconst 1, 1) := by decide +kernel
theorem dX3_takeEight_43 : decode cX3_takeEight 43 = .ok (.iadd, 1) := by decide +kernel
theorem dX3_takeEight_44 : decode cX3_takeEight 44 = .ok (.putfield 15, 3) := by decide +kernel
theorem dX3_takeEight_47 : decode cX3_takeEight 47 = .ok (.iinc 3 (-8), 3) := by decide +kernel
theorem dX3_takeEight_50 : decode cX3_takeEight 50 = .ok (.goto (-34), 3) := by decide +kernel
theorem dX3_takeEight_53 : decode cX3_takeEight 53 = .ok (.aload_n 0, 1) := by decide +kernel
theorem dX3_takeEight_54 : decode cX3_takeEight 54 = .ok (.getfield 15, 3) := by decide +kernel
theorem dX3_takeEight_57 : decode cX3_takeEight 57 = .ok (.ireturn, 1) := by decide +kernel
theorem dX3_readLines_0 : decode cX3_readLines 0 = .ok (.aload_n 0, 1) := by decide +kernel
theorem dX3_readLines_1 : decode cX3_readLines 1 = .ok (.iconst 0, 1) := by decide +kernel
theorem dX3_readLines_2 : decode cX3_readLines 2 = .ok (.putfield 19, 3) := by decide +kernel
theorem dX3_readLines_5 : decode cX3_readLines 5 = .ok (.aload_n 0, 1) := by decide +kernel
theorem dX3_readLines_6 : decode cX3_readLines 6 = .ok (.iconst 0, 1) := by decide +kernel
theorem dX3_readLines_7 : decode cX3_readLines 7 = .ok (.putfield 22, 3) := by decide +kernel
theorem dX3_readLines_10 : decode cX3_readLines 10 = .ok (.aload_n 0, 1) := by decide +kernel
theorem dX3_readLines_11 : decode cX3_readLines 11 = .ok (.iconst 0, 1) := by decide +kernel
theorem dX3_readLines_12 : decode cX3_readLines 12 = .ok (.putfield 25, 3) := by decide +kernel
theorem dX3_readLines_15 : decode cX3_readLines 15 = .ok (.iconst 0, 1) := by decide +kernel
theorem dX3_readLines_16 : decode cX3_readLines 16 = .ok (.istore_n 2, 1) := by decide +kernel
theorem dX3_readLines_17 : decode cX3_readLines 17 = .ok (.iload_n 2, 1) := by decide +kernel
theorem dX3_readLines_18 : decode cX3_readLines 18 = .ok (.bipush 10, 2) := by decide +kernel
theorem dX3_readLines_20 : decode cX3_readLines 20 = .ok (.if_icmp .gt 49, 3) := by decide +kernel
theorem dX3_readLines_23 : decode cX3_readLines 23 = .ok (.aload_n 0, 1) := by decide +kernel
theorem dX3_readLines_24 : decode cX3_readLines 24 = .ok (.invokevirtual 28, 3) := by decide +kernel
theorem dX3_readLines_27 : decode cX3_readLines 27 = .ok (.aload_n 0, 1) := by decide +kernel
theorem dX3_readLines_28 : decode cX3_readLines 28 = .ok (.getfield 25, 3) := by decide +kernel
theorem dX3_readLines_31 : decode cX3_readLines 31 = .ok (.ifCond .ne 12, 3) := by decide +kernel
theorem dX3_readLines_34 : decode cX3_readLines 34 = .ok (.aload_n 0, 1) := by decide +kernel
theorem dX3_readLines_35 : decode cX3_readLines 35 = .ok (.getfield 31, 3) := by decide +kernel
theorem dX3_readLines_38 : decode cX3_readLines 38 = .ok (.ifCond .ne 5, 3) := by decide +kernel
theorem dX3_readLines_41 : decode cX3_readLines 41 = .ok (.iload_n 2, 1) := by decide +kernel
theorem dX3_readLines_42 : decode cX3_readLines 42 = .ok (.ireturn, 1) := by decide +kernel
theorem dX3_readLines_43 : decode cX3_readLines 43 = .ok (.aload_n 0, 1) := by decide +kernel
theorem dX3_readLines_44 : decode cX3_readLines 44 = .ok (.aload_n 1, 1) := by decide +kernel
theorem dX3_readLines_45 : decode cX3_readLines 45 = .ok (.invokevirtual 34, 3) := by decide +kernel
theorem dX3_readLines_48 : decode cX3_readLines 48 = .ok (.aload_n 0, 1) := by decide +kernel
theorem dX3_readLines_49 : decode cX3_readLines 49 = .ok (.getfield 25, 3) := by decide +kernel
theorem dX3_readLines_52 : decode cX3_readLines 52 = .ok (.ifCond .eq 11, 3) := by decide +kernel
theorem dX3_readLines_55 : decode cX3_readLines 55 = .ok (.bipush (-10), 2) := by decide +kernel
theorem dX3_readLines_57 : decode cX3_readLines 57 = .ok (.aload_n 0, 1) := by decide +kernel
theorem dX3_readLines_58 : decode cX3_readLines 58 = .ok (.getfield 38, 3) := by decide +kernel
theorem dX3_readLines_61 : decode cX3_readLines 61 = .ok (.isub, 1) := by decide +kernel
theorem dX3_readLines_62 : decode cX3_readLines 62 = .ok (.ireturn, 1) := by decide +kernel
theorem dX3_readLines_63 : decode cX3_readLines 63 = .ok (.iinc 2 1, 3) := by decide +kernel
theorem dX3_readLines_66 : decode cX3_readLines 66 = .ok (.goto (-49), 3) := by decide +kernel
theorem dX3_readLines_69 : decode cX3_readLines 69 = .ok (.iload_n 2, 1) := by decide +kernel
theorem dX3_readLines_70 : decode cX3_readLines 70 = .ok (.ireturn, 1) := by decide +kernel
theorem dX3_readLine_0 : decode cX3_readLine 0 = .ok (.aload_n 0, 1) := by decide +kernel
theorem dX3_readLine_1 : decode cX3_readLine 1 = .ok (.iconst 1, 1) := by decide +kernel
theorem dX3_readLine_2 : decode cX3_readLine 2 = .ok (.invokevirtual 41, 3) := by decide +kernel
theorem dX3_readLine_5 : decode cX3_readLine 5 = .ok (.ifCond .ne 4, 3) := by decide +kernel
theorem dX3_readLine_8 : decode cX3_readLine 8 = .ok (.return_, 1) := by decide +kernel
theorem dX3_readLine_9 : decode cX3_readLine 9 = .ok (.aload_n 0, 1) := by decide +kernel
theorem dX3_readLine_10 : decode cX3_readLine 10 = .ok (.getfield 45, 3) := by decide +kernel
theorem dX3_readLine_13 : decode cX3_readLine 13 = .ok (.istore_n 2, 1) := by decide +kernel
theorem dX3_readLine_14 : decode cX3_readLine 14 = .ok (.aload_n 0, 1) := by decide +kernel
theorem dX3_readLine_15 : decode cX3_readLine 15 = .ok (.getfield 22, 3) := by decide +kernel
theorem dX3_readLine_18 : decode cX3_readLine 18 = .ok (.iload_n 2, 1) := by decide +kernel
theorem dX3_readLine_19 : decode cX3_readLine 19 = .ok (.invokestatic 48, 3) := by decide +kernel
theorem dX3_readLine_22 : decode cX3_readLine 22 = .ok (.ifCond .eq 9, 3) := by decide +kernel
theorem dX3_readLine_25 : decode cX3_readLine 25 = .ok (.aload_n 0, 1) := by decide +kernel
theorem dX3_readLine_26 : decode cX3_readLine 26 = .ok (.iconst 4, 1) := by decide +kernel
theorem dX3_readLine_27 : decode cX3_readLine 27 = .ok (.putfield 25, 3) := by decide +kernel
theorem dX3_readLine_30 : decode cX3_readLine 30 = .ok (.return_, 1) := by decide +kernel
theorem dX3_readLine_31 : decode cX3_readLine 31 = .ok (.aload_n 0, 1) := by decide +kernel
theorem dX3_readLine_32 : decode cX3_readLine 32 = .ok (.dup, 1) := by decide +kernel
theorem dX3_readLine_33 : decode cX3_readLine 33 = .ok (.getfield 22, 3) := by decide +kernel
theorem dX3_readLine_36 : decode cX3_readLine 36 = .ok (.iconst 1, 1) := by decide +kernel
theorem dX3_readLine_37 : decode cX3_readLine 37 = .ok (.iload_n 2, 1) := by decide +kernel
theorem dX3_readLine_38 : decode cX3_readLine 38 = .ok (.ishl, 1) := by decide +kernel
theorem dX3_readLine_39 : decode cX3_readLine 39 = .ok (.ior, 1) := by decide +kernel
theorem dX3_readLine_40 : decode cX3_readLine 40 = .ok (.putfield 22, 3) := by decide +kernel
theorem dX3_readLine_43 : decode cX3_readLine 43 = .ok (.aload_n 0, 1) := by decide +kernel
theorem dX3_readLine_44 : decode cX3_readLine 44 = .ok (.invokevirtual 28, 3) := by decide +kernel
theorem dX3_readLine_47 : decode cX3_readLine 47 = .ok (.aload_n 0, 1) := by decide +kernel
theorem dX3_readLine_48 : decode cX3_readLine 48 = .ok (.iconst 2, 1) := by decide +kernel
theorem dX3_readLine_49 : decode cX3_readLine 49 = .ok (.invokevirtual 41, 3) := by decide +kernel
theorem dX3_readLine_52 : decode cX3_readLine 52 = .ok (.ifCond .ne 4, 3) := by decide +kernel
theorem dX3_readLine_55 : decode cX3_readLine 55 = .ok (.return_, 1) := by decide +kernel
theorem dX3_readLine_56 : decode cX3_readLine 56 = .ok (.aload_n 0, 1) := by decide +kernel
theorem dX3_readLine_57 : decode cX3_readLine 57 = .ok (.getfield 45, 3) := by decide +kernel
theorem dX3_readLine_60 : decode cX3_readLine 60 = .ok (.getstatic 52, 3) := by decide +kernel
theorem dX3_readLine_63 : decode cX3_readLine 63 = .ok (.iload_n 2, 1) := by decide +kernel
theorem dX3_readLine_64 : decode cX3_readLine 64 = .ok (.iaload, 1) := by decide +kernel
theorem dX3_readLine_65 : decode cX3_readLine 65 = .ok (.getstatic 55, 3) := by decide +kernel
theorem dX3_readLine_68 : decode cX3_readLine 68 = .ok (.iload_n 2, 1) := by decide +kernel
theorem dX3_readLine_69 : decode cX3_readLine 69 = .ok (.iaload, 1) := by decide +kernel
theorem dX3_readLine_70 : decode cX3_readLine 70 = .ok (.invokestatic 58, 3) := by decide +kernel
theorem dX3_readLine_73 : decode cX3_readLine 73 = .ok (.ifCond .ne 9, 3) := by decide +kernel
theorem dX3_readLine_76 : decode cX3_readLine 76 = .ok (.aload_n 0, 1) := by decide +kernel
theorem dX3_readLine_77 : decode cX3_readLine 77 = .ok (.iconst 3, 1) := by decide +kernel
theorem dX3_readLine_78 : decode cX3_readLine 78 = .ok (.putfield 25, 3) := by decide +kernel
theorem dX3_readLine_81 : decode cX3_readLine 81 = .ok (.return_, 1) := by decide +kernel
theorem dX3_readLine_82 : decode cX3_readLine 82 = .ok (.aload_n 1, 1) := by decide +kernel
theorem dX3_readLine_83 : decode cX3_readLine 83 = .ok (.iload_n 2, 1) := by decide +kernel
theorem dX3_readLine_84 : decode cX3_readLine 84 = .ok (.aload_n 0, 1) := by decide +kernel
theorem dX3_readLine_85 : decode cX3_readLine 85 = .ok (.getfield 45, 3) := by decide +kernel
theorem dX3_readLine_88 : decode cX3_readLine 88 = .ok (.iastore, 1) := by decide +kernel
theorem dX3_readLine_89 : decode cX3_readLine 89 = .ok (.aload_n 0, 1) := by decide +kernel
theorem dX3_readLine_90 : decode cX3_readLine 90 = .ok (.invokevirtual 28, 3) := by decide +kernel
theorem dX3_readLine_93 : decode cX3_readLine 93 = .ok (.aload_n 0, 1) := by decide +kernel
theorem dX3_readLine_94 : decode cX3_readLine 94 = .ok (.iconst 3, 1) := by decide +kernel
theorem dX3_readLine_95 : decode cX3_readLine 95 = .ok (.invokevirtual 41, 3) := by decide +kernel
theorem dX3_readLine_98 : decode cX3_readLine 98 = .ok (.pop, 1) := by decide +kernel
theorem dX3_readLine_99 : decode cX3_readLine 99 = .ok (.return_, 1) := by decide +kernel
theorem dX3_stands_0 : decode cX3_stands 0 = .ok (.aload_n 0, 1) := by decide +kernel
theorem dX3_stands_1 : decode cX3_stands 1 = .ok (.getfield 25, 3) := by decide +kernel
theorem dX3_stands_4 : decode cX3_stands 4 = .ok (.ifCond .ne 16, 3) := by decide +kernel
theorem dX3_stands_7 : decode cX3_stands 7 = .ok (.aload_n 0, 1) := by decide +kernel
theorem dX3_stands_8 : decode cX3_stands 8 = .ok (.getfield 31, 3) := by decide +kernel
theorem dX3_stands_11 : decode cX3_stands 11 = .ok (.iload_n 1, 1) := by decide +kernel
theorem dX3_stands_12 : decode cX3_stands 12 = .ok (.if_icmp .eq 8, 3) := by decide +kernel
theorem dX3_stands_15 : decode cX3_stands 15 = .ok (.aload_n 0, 1) := by decide +kernel
theorem dX3_stands_16 : decode cX3_stands 16 = .ok (.iconst 2, 1) := by decide +kernel
theorem dX3_stands_17 : decode cX3_stands 17 = .ok (.putfield 25, 3) := by decide +kernel
theorem dX3_stands_20 : decode cX3_stands 20 = .ok (.aload_n 0, 1) := by decide +kernel
theorem dX3_stands_21 : decode cX3_stands 21 = .ok (.getfield 25, 3) := by decide +kernel
theorem dX3_stands_24 : decode cX3_stands 24 = .ok (.ifCond .ne 7, 3) := by decide +kernel
theorem dX3_stands_27 : decode cX3_stands 27 = .ok (.iconst 1, 1) := by decide +kernel
theorem dX3_stands_28 : decode cX3_stands 28 = .ok (.goto 4, 3) := by decide +kernel
theorem dX3_stands_31 : decode cX3_stands 31 = .ok (.iconst 0, 1) := by decide +kernel
theorem dX3_stands_32 : decode cX3_stands 32 = .ok (.ireturn, 1) := by decide +kernel
theorem dX3_readToken_0 : decode cX3_readToken 0 = .ok (.aload_n 0, 1) := by decide +kernel
theorem dX3_readToken_1 : decode cX3_readToken 1 = .ok (.getfield 19, 3) := by decide +kernel
theorem dX3_readToken_4 : decode cX3_readToken 4 = .ok (.aload_n 0, 1) := by decide +kernel
theorem dX3_readToken_5 : decode cX3_readToken 5 = .ok (.getfield 15, 3) := by decide +kernel
theorem dX3_readToken_8 : decode cX3_readToken 8 = .ok (.if_icmp .ge 30, 3) := by decide +kernel
theorem dX3_readToken_11 : decode cX3_readToken 11 = .ok (.aload_n 0, 1) := by decide +kernel
theorem dX3_readToken_12 : decode cX3_readToken 12 = .ok (.getfield 11, 3) := by decide +kernel
theorem dX3_readToken_15 : decode cX3_readToken 15 = .ok (.aload_n 0, 1) := by decide +kernel
theorem dX3_readToken_16 : decode cX3_readToken 16 = .ok (.getfield 19, 3) := by decide +kernel
theorem dX3_readToken_19 : decode cX3_readToken 19 = .ok (.iaload, 1) := by decide +kernel
theorem dX3_readToken_20 : decode cX3_readToken 20 = .ok (.bipush 32, 2) := by decide +kernel
theorem dX3_readToken_22 : decode cX3_readToken 22 = .ok (.if_icmp .ne 16, 3) := by decide +kernel
theorem dX3_readToken_25 : decode cX3_readToken 25 = .ok (.aload_n 0, 1) := by decide +kernel
theorem dX3_readToken_26 : decode cX3_readToken 26 = .ok (.dup, 1) := by decide +kernel
theorem dX3_readToken_27 : decode cX3_readToken 27 = .ok (.getfield 19, 3) := by decide +kernel
theorem dX3_readToken_30 : decode cX3_readToken 30 = .ok (.iconst 1, 1) := by decide +kernel
theorem dX3_readToken_31 : decode cX3_readToken 31 = .ok (.iadd, 1) := by decide +kernel
theorem dX3_readToken_32 : decode cX3_readToken 32 = .ok (.putfield 19, 3) := by decide +kernel
theorem dX3_readToken_35 : decode cX3_readToken 35 = .ok (.goto (-35), 3) := by decide +kernel
theorem dX3_readToken_38 : decode cX3_readToken 38 = .ok (.aload_n 0, 1) := by decide +kernel
theorem dX3_readToken_39 : decode cX3_readToken 39 = .ok (.aload_n 0, 1) := by decide +kernel
theorem dX3_readToken_40 : decode cX3_readToken 40 = .ok (.getfield 19, 3) := by decide +kernel
theorem dX3_readToken_43 : decode cX3_readToken 43 = .ok (.putfield 38, 3) := by decide +kernel
theorem dX3_readToken_46 : decode cX3_readToken 46 = .ok (.aload_n 0, 1) := by decide +kernel
theorem dX3_readToken_47 : decode cX3_readToken 47 = .ok (.getfield 19, 3) := by decide +kernel
theorem dX3_readToken_50 : decode cX3_readToken 50 = .ok (.aload_n 0, 1) := by decide +kernel
theorem dX3_readToken_51 : decode cX3_readToken 51 = .ok (.getfield 15, 3) := by decide +kernel
theorem dX3_readToken_54 : decode cX3_readToken 54 = .ok (.if_icmp .lt 11, 3) := by decide +kernel
theorem dX3_readToken_57 : decode cX3_readToken 57 = .ok (.aload_n 0, 1) := by decide +kernel
theorem dX3_readToken_58 : decode cX3_readToken 58 = .ok (.iconst 0, 1) := by decide +kernel
theorem dX3_readToken_59 : decode cX3_readToken 59 = .ok (.putfield 31, 3) := by decide +kernel
theorem dX3_readToken_62 : decode cX3_readToken 62 = .ok (.goto 76, 3) := by decide +kernel
theorem dX3_readToken_65 : decode cX3_readToken 65 = .ok (.aload_n 0, 1) := by decide +kernel
theorem dX3_readToken_66 : decode cX3_readToken 66 = .ok (.aload_n 0, 1) := by decide +kernel
theorem dX3_readToken_67 : decode cX3_readToken 67 = .ok (.getfield 19, 3) := by decide +kernel
theorem dX3_readToken_70 : decode cX3_readToken 70 = .ok (.invokevirtual 62, 3) := by decide +kernel
theorem dX3_readToken_73 : decode cX3_readToken 73 = .ok (.ifCond .eq 10, 3) := by decide +kernel
theorem dX3_readToken_76 : decode cX3_readToken 76 = .ok (.aload_n 0, 1) := by decide +kernel
theorem dX3_readToken_77 : decode cX3_readToken 77 = .ok (.invokevirtual 65, 3) := by decide +kernel
theorem dX3_readToken_80 : decode cX3_readToken 80 = .ok (.goto 58, 3) := by decide +kernel
theorem dX3_readToken_83 : decode cX3_readToken 83 = .ok (.aload_n 0, 1) := by decide +kernel
theorem dX3_readToken_84 : decode cX3_readToken 84 = .ok (.aload_n 0, 1) := by decide +kernel
theorem dX3_readToken_85 : decode cX3_readToken 85 = .ok (.getfield 19, 3) := by decide +kernel
theorem dX3_readToken_88 : decode cX3_readToken 88 = .ok (.invokevirtual 68, 3) := by decide +kernel
theorem dX3_readToken_91 : decode cX3_readToken 91 = .ok (.ifCond .eq 10, 3) := by decide +kernel
theorem dX3_readToken_94 : decode cX3_readToken 94 = .ok (.aload_n 0, 1) := by decide +kernel
theorem dX3_readToken_95 : decode cX3_readToken 95 = .ok (.invokevirtual 71, 3) := by decide +kernel
theorem dX3_readToken_98 : decode cX3_readToken 98 = .ok (.goto 40, 3) := by decide +kernel
theorem dX3_readToken_101 : decode cX3_readToken 101 = .ok (.aload_n 0, 1) := by decide +kernel
theorem dX3_readToken_102 : decode cX3_readToken 102 = .ok (.getfield 11, 3) := by decide +kernel
theorem dX3_readToken_105 : decode cX3_readToken 105 = .ok (.aload_n 0, 1) := by decide +kernel
theorem dX3_readToken_106 : decode cX3_readToken 106 = .ok (.getfield 19, 3) := by decide +kernel
theorem dX3_readToken_109 : decode cX3_readToken 109 = .ok (.iaload, 1) := by decide +kernel
theorem dX3_readToken_110 : decode cX3_readToken 110 = .ok (.bipush 59, 2) := by decide +kernel
theorem dX3_readToken_112 : decode cX3_readToken 112 = .ok (.if_icmp .ne 21, 3) := by decide +kernel
theorem dX3_readToken_115 : decode cX3_readToken 115 = .ok (.aload_n 0, 1) := by decide +kernel
theorem dX3_readToken_116 : decode cX3_readToken 116 = .ok (.iconst 3, 1) := by decide +kernel
theorem dX3_readToken_117 : decode cX3_readToken 117 = .ok (.putfield 31, 3) := by decide +kernel
theorem dX3_readToken_120 : decode cX3_readToken 120 = .ok (.aload_n 0, 1) := by decide +kernel
theorem dX3_readToken_121 : decode cX3_readToken 121 = .ok (.dup, 1) := by decide +kernel
theorem dX3_readToken_122 : decode cX3_readToken 122 = .ok (.getfield 19, 3) := by decide +kernel
theorem dX3_readToken_125 : decode cX3_readToken 125 = .ok (.iconst 1, 1) := by decide +kernel
theorem dX3_readToken_126 : decode cX3_readToken 126 = .ok (.iadd, 1) := by decide +kernel
theorem dX3_readToken_127 : decode cX3_readToken 127 = .ok (.putfield 19, 3) := by decide +kernel
theorem dX3_readToken_130 : decode cX3_readToken 130 = .ok (.goto 8, 3) := by decide +kernel
theorem dX3_readToken_133 : decode cX3_readToken 133 = .ok (.aload_n 0, 1) := by decide +kernel
theorem dX3_readToken_134 : decode cX3_readToken 134 = .ok (.iconst 1, 1) := by decide +kernel
theorem dX3_readToken_135 : decode cX3_readToken 135 = .ok (.putfield 25, 3) := by decide +kernel
theorem dX3_readToken_138 : decode cX3_readToken 138 = .ok (.return_, 1) := by decide +kernel
theorem dX3_isLetter_0 : decode cX3_isLetter 0 = .ok (.aload_n 0, 1) := by decide +kernel
theorem dX3_isLetter_1 : decode cX3_isLetter 1 = .ok (.getfield 11, 3) := by decide +kernel
theorem dX3_isLetter_4 : decode cX3_isLetter 4 = .ok (.iload_n 1, 1) := by decide +kernel
theorem dX3_isLetter_5 : decode cX3_isLetter 5 = .ok (.iaload, 1) := by decide +kernel
theorem dX3_isLetter_6 : decode cX3_isLetter 6 = .ok (.bipush 97, 2) := by decide +kernel
theorem dX3_isLetter_8 : decode cX3_isLetter 8 = .ok (.bipush 122, 2) := by decide +kernel
theorem dX3_isLetter_10 : decode cX3_isLetter 10 = .ok (.invokestatic 58, 3) := by decide +kernel
theorem dX3_isLetter_13 : decode cX3_isLetter 13 = .ok (.ireturn, 1) := by decide +kernel
theorem dX3_isFigure_0 : decode cX3_isFigure 0 = .ok (.aload_n 0, 1) := by decide +kernel
theorem dX3_isFigure_1 : decode cX3_isFigure 1 = .ok (.getfield 11, 3) := by decide +kernel
theorem dX3_isFigure_4 : decode cX3_isFigure 4 = .ok (.iload_n 1, 1) := by decide +kernel
theorem dX3_isFigure_5 : decode cX3_isFigure 5 = .ok (.iaload, 1) := by decide +kernel
theorem dX3_isFigure_6 : decode cX3_isFigure 6 = .ok (.bipush 48, 2) := by decide +kernel
theorem dX3_isFigure_8 : decode cX3_isFigure 8 = .ok (.bipush 57, 2) := by decide +kernel
theorem dX3_isFigure_10 : decode cX3_isFigure 10 = .ok (.invokestatic 58, 3) := by decide +kernel
theorem dX3_isFigure_13 : decode cX3_isFigure 13 = .ok (.ireturn, 1) := by decide +kernel
theorem dX3_readRule_0 : decode cX3_readRule 0 = .ok (.aload_n 0, 1) := by decide +kernel
theorem dX3_readRule_1 : decode cX3_readRule 1 = .ok (.getfield 19, 3) := by decide +kernel
theorem dX3_readRule_4 : decode cX3_readRule 4 = .ok (.aload_n 0, 1) := by decide +kernel
theorem dX3_readRule_5 : decode cX3_readRule 5 = .ok (.getfield 15, 3) := by decide +kernel
theorem dX3_readRule_8 : decode cX3_readRule 8 = .ok (.if_icmp .ge 27, 3) := by decide +kernel
theorem dX3_readRule_11 : decode cX3_readRule 11 = .ok (.aload_n 0, 1) := by decide +kernel
theorem dX3_readRule_12 : decode cX3_readRule 12 = .ok (.aload_n 0, 1) := by decide +kernel
theorem dX3_readRule_13 : decode cX3_readRule 13 = .ok (.getfield 19, 3) := by decide +kernel
theorem dX3_readRule_16 : decode cX3_readRule 16 = .ok (.invokevirtual 62, 3) := by decide +kernel
theorem dX3_readRule_19 : decode cX3_readRule 19 = .ok (.ifCond .eq 16, 3) := by decide +kernel
theorem dX3_readRule_22 : decode cX3_readRule 22 = .ok (.aload_n 0, 1) := by decide +kernel
theorem dX3_readRule_23 : decode cX3_readRule 23 = .ok (.dup, 1) := by decide +kernel
theorem dX3_readRule_24 : decode cX3_readRule 24 = .ok (.getfield 19, 3) := by decide +kernel
theorem dX3_readRule_27 : decode cX3_readRule 27 = .ok (.iconst 1, 1) := by decide +kernel
theorem dX3_readRule_28 : decode cX3_readRule 28 = .ok (.iadd, 1) := by decide +kernel
theorem dX3_readRule_29 : decode cX3_readRule 29 = .ok (.putfield 19, 3) := by decide +kernel
theorem dX3_readRule_32 : decode cX3_readRule 32 = .ok (.goto (-32), 3) := by decide +kernel
theorem dX3_readRule_35 : decode cX3_readRule 35 = .ok (.aload_n 0, 1) := by decide +kernel
theorem dX3_readRule_36 : decode cX3_readRule 36 = .ok (.iconst 1, 1) := by decide +kernel
theorem dX3_readRule_37 : decode cX3_readRule 37 = .ok (.putfield 31, 3) := by decide +kernel
theorem dX3_readRule_40 : decode cX3_readRule 40 = .ok (.iconst 0, 1) := by decide +kernel
theorem dX3_readRule_41 : decode cX3_readRule 41 = .ok (.istore_n 1, 1) := by decide +kernel
theorem dX3_readRule_42 : decode cX3_readRule 42 = .ok (.iload_n 1, 1) := by decide +kernel
theorem dX3_readRule_43 : decode cX3_readRule 43 = .ok (.bipush 10, 2) := by decide +kernel
theorem dX3_readRule_45 : decode cX3_readRule 45 = .ok (.if_icmp .ge 26, 3) := by decide +kernel
theorem dX3_readRule_48 : decode cX3_readRule 48 = .ok (.aload_n 0, 1) := by decide +kernel
theorem dX3_readRule_49 : decode cX3_readRule 49 = .ok (.iload_n 1, 1) := by decide +kernel
theorem dX3_readRule_50 : decode cX3_readRule 50 = .ok (.invokestatic 74, 3) := by decide +kernel
theorem dX3_readRule_53 : decode cX3_readRule 53 = .ok (.invokevirtual 78, 3) := by decide +kernel
theorem dX3_readRule_56 : decode cX3_readRule 56 = .ok (.ifCond .eq 9, 3) := by decide +kernel
theorem dX3_readRule_59 : decode cX3_readRule 59 = .ok (.aload_n 0, 1) := by decide +kernel
theorem dX3_readRule_60 : decode cX3_readRule 60 = .ok (.iload_n 1, 1) := by decide +kernel
theorem dX3_readRule_61 : decode cX3_readRule 61 = .ok (.putfield 45, 3) := by decide +kernel
theorem dX3_readRule_64 : decode cX3_readRule 64 = .ok (.return_, 1) := by decide +kernel
theorem dX3_readRule_65 : decode cX3_readRule 65 = .ok (.iinc 1 1, 3) := by decide +kernel
theorem dX3_readRule_68 : decode cX3_readRule 68 = .ok (.goto (-26), 3) := by decide +kernel
theorem dX3_readRule_71 : decode cX3_readRule 71 = .ok (.aload_n 0, 1) := by decide +kernel
theorem dX3_readRule_72 : decode cX3_readRule 72 = .ok (.iconst 1, 1) := by decide +kernel
theorem dX3_readRule_73 : decode cX3_readRule 73 = .ok (.putfield 25, 3) := by decide +kernel
theorem dX3_readRule_76 : decode cX3_readRule 76 = .ok (.return_, 1) := by decide +kernel
theorem dX3_readNumber_0 : decode cX3_readNumber 0 = .ok (.aload_n 0, 1) := by decide +kernel
theorem dX3_readNumber_1 : decode cX3_readNumber 1 = .ok (.iconst 2, 1) := by decide +kernel
theorem dX3_readNumber_2 : decode cX3_readNumber 2 = .ok (.putfield 31, 3) := by decide +kernel
theorem dX3_readNumber_5 : decode cX3_readNumber 5 = .ok (.aload_n 0, 1) := by decide +kernel
theorem dX3_readNumber_6 : decode cX3_readNumber 6 = .ok (.iconst 0, 1) := by decide +kernel
theorem dX3_readNumber_7 : decode cX3_readNumber 7 = .ok (.putfield 45, 3) := by decide +kernel
theorem dX3_readNumber_10 : decode cX3_readNumber 10 = .ok (.aload_n 0, 1) := by decide +kernel
theorem dX3_readNumber_11 : decode cX3_readNumber 11 = .ok (.getfield 19, 3) := by decide +kernel
theorem dX3_readNumber_14 : decode cX3_readNumber 14 = .ok (.aload_n 0, 1) := by decide +kernel
theorem dX3_readNumber_15 : decode cX3_readNumber 15 = .ok (.getfield 15, 3) := by decide +kernel
theorem dX3_readNumber_18 : decode cX3_readNumber 18 = .ok (.if_icmp .ge 71, 3) := by decide +kernel
theorem dX3_readNumber_21 : decode cX3_readNumber 21 = .ok (.aload_n 0, 1) := by decide +kernel
theorem dX3_readNumber_22 : decode cX3_readNumber 22 = .ok (.aload_n 0, 1) := by decide +kernel
theorem dX3_readNumber_23 : decode cX3_readNumber 23 = .ok (.getfield 19, 3) := by decide +kernel
theorem dX3_readNumber_26 : decode cX3_readNumber 26 = .ok (.invokevirtual 68, 3) := by decide +kernel
theorem dX3_readNumber_29 : decode cX3_readNumber 29 = .ok (.ifCond .eq 60, 3) := by decide +kernel
theorem dX3_readNumber_32 : decode cX3_readNumber 32 = .ok (.aload_n 0, 1) := by decide +kernel
theorem dX3_readNumber_33 : decode cX3_readNumber 33 = .ok (.aload_n 0, 1) := by decide +kernel
theorem dX3_readNumber_34 : decode cX3_readNumber 34 = .ok (.getfield 19, 3) := by decide +kernel
theorem dX3_readNumber_37 : decode cX3_readNumber 37 = .ok (.aload_n 0, 1) := by decide +kernel
theorem dX3_readNumber_38 : decode cX3_readNumber 38 = .ok (.getfield 38, 3) := by decide +kernel
theorem dX3_readNumber_41 : decode cX3_readNumber 41 = .ok (.isub, 1) := by decide +kernel
theorem dX3_readNumber_42 : decode cX3_readNumber 42 = .ok (.iconst 4, 1) := by decide +kernel
theorem dX3_readNumber_43 : decode cX3_readNumber 43 = .ok (.if_icmp .ge 26, 3) := by decide +kernel
theorem dX3_readNumber_46 : decode cX3_readNumber 46 = .ok (.bipush 10, 2) := by decide +kernel
theorem dX3_readNumber_48 : decode cX3_readNumber 48 = .ok (.aload_n 0, 1) := by decide +kernel
theorem dX3_readNumber_49 : decode cX3_readNumber 49 = .ok (.getfield 45, 3) := by decide +kernel
theorem dX3_readNumber_52 : decode cX3_readNumber 52 = .ok (.imul, 1) := by decide +kernel
theorem dX3_readNumber_53 : decode cX3_readNumber 53 = .ok (.aload_n 0, 1) := by decide +kernel
theorem dX3_readNumber_54 : decode cX3_readNumber 54 = .ok (.getfield 11, 3) := by decide +kernel
theorem dX3_readNumber_57 : decode cX3_readNumber 57 = .ok (.aload_n 0, 1) := by decide +kernel
theorem dX3_readNumber_58 : decode cX3_readNumber 58 = .ok (.getfield 19, 3) := by decide +kernel
theorem dX3_readNumber_61 : decode cX3_readNumber 61 = .ok (.iaload, 1) := by decide +kernel
theorem dX3_readNumber_62 : decode cX3_readNumber 62 = .ok (.iadd, 1) := by decide +kernel
theorem dX3_readNumber_63 : decode cX3_readNumber 63 = .ok (.bipush 48, 2) := by decide +kernel
theorem dX3_readNumber_65 : decode cX3_readNumber 65 = .ok (.isub, 1) := by decide +kernel
theorem dX3_readNumber_66 : decode cX3_readNumber 66 = .ok (.goto 7, 3) := by decide +kernel
theorem dX3_readNumber_69 : decode cX3_readNumber 69 = .ok (.aload_n 0, 1) := by decide +kernel
theorem dX3_readNumber_70 : decode cX3_readNumber 70 = .ok (.getfield 45, 3) := by decide +kernel
theorem dX3_readNumber_73 : decode cX3_readNumber 73 = .ok (.putfield 45, 3) := by decide +kernel
theorem dX3_readNumber_76 : decode cX3_readNumber 76 = .ok (.aload_n 0, 1) := by decide +kernel
theorem dX3_readNumber_77 : decode cX3_readNumber 77 = .ok (.dup, 1) := by decide +kernel
theorem dX3_readNumber_78 : decode cX3_readNumber 78 = .ok (.getfield 19, 3) := by decide +kernel
theorem dX3_readNumber_81 : decode cX3_readNumber 81 = .ok (.iconst 1, 1) := by decide +kernel
theorem dX3_readNumber_82 : decode cX3_readNumber 82 = .ok (.iadd, 1) := by decide +kernel
theorem dX3_readNumber_83 : decode cX3_readNumber 83 = .ok (.putfield 19, 3) := by decide +kernel
theorem dX3_readNumber_86 : decode cX3_readNumber 86 = .ok (.goto (-76), 3) := by decide +kernel
theorem dX3_readNumber_89 : decode cX3_readNumber 89 = .ok (.aload_n 0, 1) := by decide +kernel
theorem dX3_readNumber_90 : decode cX3_readNumber 90 = .ok (.getfield 19, 3) := by decide +kernel
theorem dX3_readNumber_93 : decode cX3_readNumber 93 = .ok (.aload_n 0, 1) := by decide +kernel
theorem dX3_readNumber_94 : decode cX3_readNumber 94 = .ok (.getfield 38, 3) := by decide +kernel
theorem dX3_readNumber_97 : decode cX3_readNumber 97 = .ok (.isub, 1) := by decide +kernel
theorem dX3_readNumber_98 : decode cX3_readNumber 98 = .ok (.iconst 4, 1) := by decide +kernel
theorem dX3_readNumber_99 : decode cX3_readNumber 99 = .ok (.if_icmp .le 8, 3) := by decide +kernel
theorem dX3_readNumber_102 : decode cX3_readNumber 102 = .ok (.aload_n 0, 1) := by decide +kernel
theorem dX3_readNumber_103 : decode cX3_readNumber 103 = .ok (.iconst 1, 1) := by decide +kernel
theorem dX3_readNumber_104 : decode cX3_readNumber 104 = .ok (.putfield 25, 3) := by decide +kernel
theorem dX3_readNumber_107 : decode cX3_readNumber 107 = .ok (.return_, 1) := by decide +kernel
theorem dX3_isText_0 : decode cX3_isText 0 = .ok (.aload_n 1, 1) := by decide +kernel
theorem dX3_isText_1 : decode cX3_isText 1 = .ok (.invokevirtual 82, 3) := by decide +kernel
theorem dX3_isText_4 : decode cX3_isText 4 = .ok (.aload_n 0, 1) := by decide +kernel
theorem dX3_isText_5 : decode cX3_isText 5 = .ok (.getfield 19, 3) := by decide +kernel
theorem dX3_isText_8 : decode cX3_isText 8 = .ok (.aload_n 0, 1) := by decide +kernel
theorem dX3_isText_9 : decode cX3_isText 9 = .ok (.getfield 38, 3) := by decide +kernel
theorem dX3_isText_12 : decode cX3_isText 12 = .ok (.isub, 1) := by decide +kernel
theorem dX3_isText_13 : decode cX3_isText 13 = .ok (.if_icmp .eq 5, 3) := by decide +kernel
theorem dX3_isText_16 : decode cX3_isText 16 = .ok (.iconst 0, 1) := by decide +kernel
theorem dX3_isText_17 : decode cX3_isText 17 = .ok (.ireturn, 1) := by decide +kernel
theorem dX3_isText_18 : decode cX3_isText 18 = .ok (.iconst 0, 1) := by decide +kernel
theorem dX3_isText_19 : decode cX3_isText 19 = .ok (.istore_n 2, 1) := by decide +kernel
theorem dX3_isText_20 : decode cX3_isText 20 = .ok (.iload_n 2, 1) := by decide +kernel
theorem dX3_isText_21 : decode cX3_isText 21 = .ok (.aload_n 1, 1) := by decide +kernel
theorem dX3_isText_22 : decode cX3_isText 22 = .ok (.invokevirtual 82, 3) := by decide +kernel
theorem dX3_isText_25 : decode cX3_isText 25 = .ok (.if_icmp .ge 30, 3) := by decide +kernel
theorem dX3_isText_28 : decode cX3_isText 28 = .ok (.aload_n 1, 1) := by decide +kernel
theorem dX3_isText_29 : decode cX3_isText 29 = .ok (.iload_n 2, 1) := by decide +kernel
theorem dX3_isText_30 : decode cX3_isText 30 = .ok (.invokevirtual 87, 3) := by decide +kernel
theorem dX3_isText_33 : decode cX3_isText 33 = .ok (.aload_n 0, 1) := by decide +kernel
theorem dX3_isText_34 : decode cX3_isText 34 = .ok (.getfield 11, 3) := by decide +kernel
theorem dX3_isText_37 : decode cX3_isText 37 = .ok (.aload_n 0, 1) := by decide +kernel
theorem dX3_isText_38 : decode cX3_isText 38 = .ok (.getfield 38, 3) := by decide +kernel
theorem dX3_isText_41 : decode cX3_isText 41 = .ok (.iload_n 2, 1) := by decide +kernel
theorem dX3_isText_42 : decode cX3_isText 42 = .ok (.iadd, 1) := by decide +kernel
theorem dX3_isText_43 : decode cX3_isText 43 = .ok (.iaload, 1) := by decide +kernel
theorem dX3_isText_44 : decode cX3_isText 44 = .ok (.if_icmp .eq 5, 3) := by decide +kernel
theorem dX3_isText_47 : decode cX3_isText 47 = .ok (.iconst 0, 1) := by decide +kernel
theorem dX3_isText_48 : decode cX3_isText 48 = .ok (.ireturn, 1) := by decide +kernel
theorem dX3_isText_49 : decode cX3_isText 49 = .ok (.iinc 2 1, 3) := by decide +kernel
theorem dX3_isText_52 : decode cX3_isText 52 = .ok (.goto (-32), 3) := by decide +kernel
theorem dX3_isText_55 : decode cX3_isText 55 = .ok (.iconst 1, 1) := by decide +kernel
theorem dX3_isText_56 : decode cX3_isText 56 = .ok (.ireturn, 1) := by decide +kernel
theorem dX3_textOf_0 : decode cX3_textOf 0 = .ok (.iload_n 0, 1) := by decide +kernel
theorem dX3_textOf_1 : decode cX3_textOf 1 = .ok (.tableswitch 85 0 9 #[55, 58, 61, 64, 67, 70, 73, 76, 79, 82], 55) := by decide +kernel
theorem dX3_textOf_56 : decode cX3_textOf 56 = .ok (.ldc 91, 2) := by decide +kernel
theorem dX3_textOf_58 : decode cX3_textOf 58 = .ok (.areturn, 1) := by decide +kernel
theorem dX3_textOf_59 : decode cX3_textOf 59 = .ok (.ldc 93, 2) := by decide +kernel
theorem dX3_textOf_61 : decode cX3_textOf 61 = .ok (.areturn, 1) := by decide +kernel
theorem dX3_textOf_62 : decode cX3_textOf 62 = .ok (.ldc 95, 2) := by decide +kernel
theorem dX3_textOf_64 : decode cX3_textOf 64 = .ok (.areturn, 1) := by decide +kernel
theorem dX3_textOf_65 : decode cX3_textOf 65 = .ok (.ldc 97, 2) := by decide +kernel
theorem dX3_textOf_67 : decode cX3_textOf 67 = .ok (.areturn, 1) := by decide +kernel
theorem dX3_textOf_68 : decode cX3_textOf 68 = .ok (.ldc 99, 2) := by decide +kernel
theorem dX3_textOf_70 : decode cX3_textOf 70 = .ok (.areturn, 1) := by decide +kernel
theorem dX3_textOf_71 : decode cX3_textOf 71 = .ok (.ldc 101, 2) := by decide +kernel
theorem dX3_textOf_73 : decode cX3_textOf 73 = .ok (.areturn, 1) := by decide +kernel
theorem dX3_textOf_74 : decode cX3_textOf 74 = .ok (.ldc 103, 2) := by decide +kernel
theorem dX3_textOf_76 : decode cX3_textOf 76 = .ok (.areturn, 1) := by decide +kernel
theorem dX3_textOf_77 : decode cX3_textOf 77 = .ok (.ldc 105, 2) := by decide +kernel
theorem dX3_textOf_79 : decode cX3_textOf 79 = .ok (.areturn, 1) := by decide +kernel
theorem dX3_textOf_80 : decode cX3_textOf 80 = .ok (.ldc 107, 2) := by decide +kernel
theorem dX3_textOf_82 : decode cX3_textOf 82 = .ok (.areturn, 1) := by decide +kernel
theorem dX3_textOf_83 : decode cX3_textOf 83 = .ok (.ldc 109, 2) := by decide +kernel
theorem dX3_textOf_85 : decode cX3_textOf 85 = .ok (.areturn, 1) := by decide +kernel
theorem dX3_textOf_86 : decode cX3_textOf 86 = .ok (.ldc 111, 2) := by decide +kernel
theorem dX3_textOf_88 : decode cX3_textOf 88 = .ok (.areturn, 1) := by decide +kernel
theorem dX4_init_0 : decode cX4_init 0 = .ok (.aload_n 0, 1) := by decide +kernel
theorem dX4_init_1 : decode cX4_init 1 = .ok (.invokespecial 3, 3) := by decide +kernel
theorem dX4_init_4 : decode cX4_init 4 = .ok (.aload_n 0, 1) := by decide +kernel
theorem dX4_init_5 : decode cX4_init 5 = .ok (.bipush 24, 2) := by decide +kernel
theorem dX4_init_7 : decode cX4_init 7 = .ok (.newarray .int, 2) := by decide +kernel
theorem dX4_init_9 : decode cX4_init 9 = .ok (.putfield 9, 3) := by decide +kernel
theorem dX4_init_12 : decode cX4_init 12 = .ok (.aload_n 0, 1) := by decide +kernel
theorem dX4_init_13 : decode cX4_init 13 = .ok (.bipush 24, 2) := by decide +kernel
theorem dX4_init_15 : decode cX4_init 15 = .ok (.newarray .int, 2) := by decide +kernel
theorem dX4_init_17 : decode cX4_init 17 = .ok (.putfield 15, 3) := by decide +kernel
theorem dX4_init_20 : decode cX4_init 20 = .ok (.aload_n 0, 1) := by decide +kernel
theorem dX4_init_21 : decode cX4_init 21 = .ok (.bipush 24, 2) := by decide +kernel
theorem dX4_init_23 : decode cX4_init 23 = .ok (.newarray .int, 2) := by decide +kernel
theorem dX4_init_25 : decode cX4_init 25 = .ok (.putfield 18, 3) := by decide +kernel
theorem dX4_init_28 : decode cX4_init 28 = .ok (.aload_n 0, 1) := by decide +kernel
theorem dX4_init_29 : decode cX4_init 29 = .ok (.bipush 24, 2) := by decide +kernel
theorem dX4_init_31 : decode cX4_init 31 = .ok (.newarray .int, 2) := by decide +kernel
theorem dX4_init_33 : decode cX4_init 33 = .ok (.putfield 21, 3) := by decide +kernel
theorem dX4_init_36 : decode cX4_init 36 = .ok (.aload_n 0, 1) := by decide +kernel
theorem dX4_init_37 : decode cX4_init 37 = .ok (.bipush 24, 2) := by decide +kernel
theorem dX4_init_39 : decode cX4_init 39 = .ok (.newarray .int, 2) := by decide +kernel
theorem dX4_init_41 : decode cX4_init 41 = .ok (.putfield 24, 3) := by decide +kernel
theorem dX4_init_44 : decode cX4_init 44 = .ok (.return_, 1) := by decide +kernel
theorem dX4_enter_0 : decode cX4_enter 0 = .ok (.aload_n 0, 1) := by decide +kernel
theorem dX4_enter_1 : decode cX4_enter 1 = .ok (.getfield 27, 3) := by decide +kernel
theorem dX4_enter_4 : decode cX4_enter 4 = .ok (.bipush 24, 2) := by decide +kernel
theorem dX4_enter_6 : decode cX4_enter 6 = .ok (.if_icmp .lt 6, 3) := by decide +kernel
theorem dX4_enter_9 : decode cX4_enter 9 = .ok (.bipush (-3), 2) := by decide +kernel
theorem dX4_enter_11 : decode cX4_enter 11 = .ok (.ireturn, 1) := by decide +kernel
theorem dX4_enter_12 : decode cX4_enter 12 = .ok (.aload_n 0, 1) := by decide +kernel
theorem dX4_enter_13 : decode cX4_enter 13 = .ok (.getfield 9, 3) := by decide +kernel
theorem dX4_enter_16 : decode cX4_enter 16 = .ok (.aload_n 0, 1) := by decide +kernel
theorem dX4_enter_17 : decode cX4_enter 17 = .ok (.getfield 27, 3) := by decide +kernel
theorem dX4_enter_20 : decode cX4_enter 20 = .ok (.iload_n 1, 1) := by decide +kernel
theorem dX4_enter_21 : decode cX4_enter 21 = .ok (.iastore, 1) := by decide +kernel
theorem dX4_enter_22 : decode cX4_enter 22 = .ok (.aload_n 0, 1) := by decide +kernel
theorem dX4_enter_23 : decode cX4_enter 23 = .ok (.getfield 15, 3) := by decide +kernel
theorem dX4_enter_26 : decode cX4_enter 26 = .ok (.aload_n 0, 1) := by decide +kernel
theorem dX4_enter_27 : decode cX4_enter 27 = .ok (.getfield 27, 3) := by decide +kernel
theorem dX4_enter_30 : decode cX4_enter 30 = .ok (.iload_n 2, 1) := by decide +kernel
theorem dX4_enter_31 : decode cX4_enter 31 = .ok (.iastore, 1) := by decide +kernel
theorem dX4_enter_32 : decode cX4_enter 32 = .ok (.aload_n 0, 1) := by decide +kernel
theorem dX4_enter_33 : decode cX4_enter 33 = .ok (.getfield 18, 3) := by decide +kernel
theorem dX4_enter_36 : decode cX4_enter 36 = .ok (.aload_n 0, 1) := by decide +kernel
theorem dX4_enter_37 : decode cX4_enter 37 = .ok (.getfield 27, 3) := by decide +kernel
theorem dX4_enter_40 : decode cX4_enter 40 = .ok (.iload_n 3, 1) := by decide +kernel
theorem dX4_enter_41 : decode cX4_enter 41 = .ok (.iastore, 1) := by decide +kernel
theorem dX4_enter_42 : decode cX4_enter 42 = .ok (.aload_n 0, 1) := by decide +kernel
theorem dX4_enter_43 : decode cX4_enter 43 = .ok (.getfield 21, 3) := by decide +kernel
theorem dX4_enter_46 : decode cX4_enter 46 = .ok (.aload_n 0, 1) := by decide +kernel
theorem dX4_enter_47 : decode cX4_enter 47 = .ok (.getfield 27, 3) := by decide +kernel
theorem dX4_enter_50 : decode cX4_enter 50 = .ok (.iload 4, 2) := by decide +kernel
theorem dX4_enter_52 : decode cX4_enter 52 = .ok (.iastore, 1) := by decide +kernel
theorem dX4_enter_53 : decode cX4_enter 53 = .ok (.aload_n 0, 1) := by decide +kernel
theorem dX4_enter_54 : decode cX4_enter 54 = .ok (.getfield 24, 3) := by decide +kernel
theorem dX4_enter_57 : decode cX4_enter 57 = .ok (.aload_n 0, 1) := by decide +kernel
theorem dX4_enter_58 : decode cX4_enter 58 = .ok (.getfield 27, 3) := by decide +kernel
theorem dX4_enter_61 : decode cX4_enter 61 = .ok (.iload 5, 2) := by decide +kernel
theorem dX4_enter_63 : decode cX4_enter 63 = .ok (.iastore, 1) := by decide +kernel
theorem dX4_enter_64 : decode cX4_enter 64 = .ok (.aload_n 0, 1) := by decide +kernel
theorem dX4_enter_65 : decode cX4_enter 65 = .ok (.dup, 1) := by decide +kernel
theorem dX4_enter_66 : decode cX4_enter 66 = .ok (.getfield 27, 3) := by decide +kernel
theorem dX4_enter_69 : decode cX4_enter 69 = .ok (.dup_x1, 1) := by decide +kernel
theorem dX4_enter_70 : decode cX4_enter 70 = .ok (.iconst 1, 1) := by decide +kernel
theorem dX4_enter_71 : decode cX4_enter 71 = .ok (.iadd, 1) := by decide +kernel
theorem dX4_enter_72 : decode cX4_enter 72 = .ok (.putfield 27, 3) := by decide +kernel
theorem dX4_enter_75 : decode cX4_enter 75 = .ok (.ireturn, 1) := by decide +kernel
theorem dX5_init_0 : decode cX5_init 0 = .ok (.aload_n 0, 1) := by decide +kernel
theorem dX5_init_1 : decode cX5_init 1 = .ok (.invokespecial 3, 3) := by decide +kernel
theorem dX5_init_4 : decode cX5_init 4 = .ok (.aload_n 0, 1) := by decide +kernel
theorem dX5_init_5 : decode cX5_init 5 = .ok (.bipush 24, 2) := by decide +kernel
theorem dX5_init_7 : decode cX5_init 7 = .ok (.newarray .int, 2) := by decide +kernel
theorem dX5_init_9 : decode cX5_init 9 = .ok (.putfield 9, 3) := by decide +kernel
theorem dX5_init_12 : decode cX5_init 12 = .ok (.aload_n 0, 1) := by decide +kernel
theorem dX5_init_13 : decode cX5_init 13 = .ok (.bipush 24, 2) := by decide +kernel
theorem dX5_init_15 : decode cX5_init 15 = .ok (.newarray .int, 2) := by decide +kernel
theorem dX5_init_17 : decode cX5_init 17 = .ok (.putfield 15, 3) := by decide +kernel
theorem dX5_init_20 : decode cX5_init 20 = .ok (.aload_n 0, 1) := by decide +kernel
theorem dX5_init_21 : decode cX5_init 21 = .ok (.bipush 24, 2) := by decide +kernel
theorem dX5_init_23 : decode cX5_init 23 = .ok (.newarray .int, 2) := by decide +kernel
theorem dX5_init_25 : decode cX5_init 25 = .ok (.putfield 18, 3) := by decide +kernel
theorem dX5_init_28 : decode cX5_init 28 = .ok (.aload_n 0, 1) := by decide +kernel
theorem dX5_init_29 : decode cX5_init 29 = .ok (.bipush 24, 2) := by decide +kernel
theorem dX5_init_31 : decode cX5_init 31 = .ok (.newarray .int, 2) := by decide +kernel
theorem dX5_init_33 : decode cX5_init 33 = .ok (.putfield 21, 3) := by decide +kernel
theorem dX5_init_36 : decode cX5_init 36 = .ok (.aload_n 0, 1) := by decide +kernel
theorem dX5_init_37 : decode cX5_init 37 = .ok (.bipush 24, 2) := by decide +kernel
theorem dX5_init_39 : decode cX5_init 39 = .ok (.newarray .int, 2) := by decide +kernel
theorem dX5_init_41 : decode cX5_init 41 = .ok (.putfield 24, 3) := by decide +kernel
theorem dX5_init_44 : decode cX5_init 44 = .ok (.aload_n 0, 1) := by decide +kernel
theorem dX5_init_45 : decode cX5_init 45 = .ok (.bipush 24, 2) := by decide +kernel
theorem dX5_init_47 : decode cX5_init 47 = .ok (.newarray .int, 2) := by decide +kernel
theorem dX5_init_49 : decode cX5_init 49 = .ok (.putfield 27, 3) := by decide +kernel
theorem dX5_init_52 : decode cX5_init 52 = .ok (.aload_n 0, 1) := by decide +kernel
theorem dX5_init_53 : decode cX5_init 53 = .ok (.bipush 24, 2) := by decide +kernel
theorem dX5_init_55 : decode cX5_init 55 = .ok (.newarray .boolean, 2) := by decide +kernel
theorem dX5_init_57 : decode cX5_init 57 = .ok (.putfield 30, 3) := by decide +kernel
theorem dX5_init_60 : decode cX5_init 60 = .ok (.return_, 1) := by decide +kernel
theorem dX5_enter_0 : decode cX5_enter 0 = .ok (.aload_n 0, 1) := by decide +kernel
theorem dX5_enter_1 : decode cX5_enter 1 = .ok (.getfield 34, 3) := by decide +kernel
theorem dX5_enter_4 : decode cX5_enter 4 = .ok (.bipush 24, 2) := by decide +kernel
theorem dX5_enter_6 : decode cX5_enter 6 = .ok (.if_icmp .lt 6, 3) := by decide +kernel
theorem dX5_enter_9 : decode cX5_enter 9 = .ok (.bipush (-3), 2) := by decide +kernel
theorem dX5_enter_11 : decode cX5_enter 11 = .ok (.ireturn, 1) := by decide +kernel
theorem dX5_enter_12 : decode cX5_enter 12 = .ok (.aload_n 0, 1) := by decide +kernel
theorem dX5_enter_13 : decode cX5_enter 13 = .ok (.getfield 30, 3) := by decide +kernel
theorem dX5_enter_16 : decode cX5_enter 16 = .ok (.aload_n 0, 1) := by decide +kernel
theorem dX5_enter_17 : decode cX5_enter 17 = .ok (.getfield 34, 3) := by decide +kernel
theorem dX5_enter_20 : decode cX5_enter 20 = .ok (.aload_n 0, 1) := by decide +kernel
theorem dX5_enter_21 : decode cX5_enter 21 = .ok (.iload_n 3, 1) := by decide +kernel
theorem dX5_enter_22 : decode cX5_enter 22 = .ok (.invokevirtual 38, 3) := by decide +kernel
theorem dX5_enter_25 : decode cX5_enter 25 = .ok (.bastore, 1) := by decide +kernel
theorem dX5_enter_26 : decode cX5_enter 26 = .ok (.aload_n 0, 1) := by decide +kernel
theorem dX5_enter_27 : decode cX5_enter 27 = .ok (.getfield 9, 3) := by decide +kernel
theorem dX5_enter_30 : decode cX5_enter 30 = .ok (.aload_n 0, 1) := by decide +kernel
theorem dX5_enter_31 : decode cX5_enter 31 = .ok (.getfield 34, 3) := by decide +kernel
theorem dX5_enter_34 : decode cX5_enter 34 = .ok (.iload_n 1, 1) := by decide +kernel
theorem dX5_enter_35 : decode cX5_enter 35 = .ok (.iastore, 1) := by decide +kernel
theorem dX5_enter_36 : decode cX5_enter 36 = .ok (.aload_n 0, 1) := by decide +kernel
theorem dX5_enter_37 : decode cX5_enter 37 = .ok (.getfield 15, 3) := by decide +kernel
theorem dX5_enter_40 : decode cX5_enter 40 = .ok (.aload_n 0, 1) := by decide +kernel
theorem dX5_enter_41 : decode cX5_enter 41 = .ok (.getfield 34, 3) := by decide +kernel
theorem dX5_enter_44 : decode cX5_enter 44 = .ok (.iload_n 2, 1) := by decide +kernel
theorem dX5_enter_45 : decode cX5_enter 45 = .ok (.iastore, 1) := by decide +kernel
theorem dX5_enter_46 : decode cX5_enter 46 = .ok (.aload_n 0, 1) := by decide +kernel
theorem dX5_enter_47 : decode cX5_enter 47 = .ok (.getfield 27, 3) := by decide +kernel
theorem dX5_enter_50 : decode cX5_enter 50 = .ok (.aload_n 0, 1) := by decide +kernel
theorem dX5_enter_51 : decode cX5_enter 51 = .ok (.getfield 34, 3) := by decide +kernel
theorem dX5_enter_54 : decode cX5_enter 54 = .ok (.iconst 1, 1) := by decide +kernel
theorem dX5_enter_55 : decode cX5_enter 55 = .ok (.iload_n 1, 1) := by decide +kernel
theorem dX5_enter_56 : decode cX5_enter 56 = .ok (.ishl, 1) := by decide +kernel
theorem dX5_enter_57 : decode cX5_enter 57 = .ok (.iconst 1, 1) := by decide +kernel
theorem dX5_enter_58 : decode cX5_enter 58 = .ok (.iload_n 2, 1) := by decide +kernel
theorem dX5_enter_59 : decode cX5_enter 59 = .ok (.ishl, 1) := by decide +kernel
theorem dX5_enter_60 : decode cX5_enter 60 = .ok (.ior, 1) := by decide +kernel
theorem dX5_enter_61 : decode cX5_enter 61 = .ok (.iastore, 1) := by decide +kernel
theorem dX5_enter_62 : decode cX5_enter 62 = .ok (.aload_n 0, 1) := by decide +kernel
theorem dX5_enter_63 : decode cX5_enter 63 = .ok (.getfield 18, 3) := by decide +kernel
theorem dX5_enter_66 : decode cX5_enter 66 = .ok (.aload_n 0, 1) := by decide +kernel
theorem dX5_enter_67 : decode cX5_enter 67 = .ok (.getfield 34, 3) := by decide +kernel
theorem dX5_enter_70 : decode cX5_enter 70 = .ok (.iload_n 3, 1) := by decide +kernel
theorem dX5_enter_71 : decode cX5_enter 71 = .ok (.iastore, 1) := by decide +kernel
theorem dX5_enter_72 : decode cX5_enter 72 = .ok (.aload_n 0, 1) := by decide +kernel
theorem dX5_enter_73 : decode cX5_enter 73 = .ok (.getfield 21, 3) := by decide +kernel
theorem dX5_enter_76 : decode cX5_enter 76 = .ok (.aload_n 0, 1) := by decide +kernel
theorem dX5_enter_77 : decode cX5_enter 77 = .ok (.getfield 34, 3) := by decide +kernel
theorem dX5_enter_80 : decode cX5_enter 80 = .ok (.iload 4, 2) := by decide +kernel
theorem dX5_enter_82 : decode cX5_enter 82 = .ok (.iastore, 1) := by decide +kernel
theorem dX5_enter_83 : decode cX5_enter 83 = .ok (.aload_n 0, 1) := by decide +kernel
theorem dX5_enter_84 : decode cX5_enter 84 = .ok (.getfield 24, 3) := by decide +kernel
theorem dX5_enter_87 : decode cX5_enter 87 = .ok (.aload_n 0, 1) := by decide +kernel
theorem dX5_enter_88 : decode cX5_enter 88 = .ok (.getfield 34, 3) := by decide +kernel
theorem dX5_enter_91 : decode cX5_enter 91 = .ok (.iload 5, 2) := by decide +kernel
theorem dX5_enter_93 : decode cX5_enter 93 = .ok (.iastore, 1) := by decide +kernel
theorem dX5_enter_94 : decode cX5_enter 94 = .ok (.aload_n 0, 1) := by decide +kernel
theorem dX5_enter_95 : decode cX5_enter 95 = .ok (.dup, 1) := by decide +kernel
theorem dX5_enter_96 : decode cX5_enter 96 = .ok (.getfield 34, 3) := by decide +kernel
theorem dX5_enter_99 : decode cX5_enter 99 = .ok (.dup_x1, 1) := by decide +kernel
theorem dX5_enter_100 : decode cX5_enter 100 = .ok (.iconst 1, 1) := by decide +kernel
theorem dX5_enter_101 : decode cX5_enter 101 = .ok (.iadd, 1) := by decide +kernel
theorem dX5_enter_102 : decode cX5_enter 102 = .ok (.putfield 34, 3) := by decide +kernel
theorem dX5_enter_105 : decode cX5_enter 105 = .ok (.ireturn, 1) := by decide +kernel
theorem dX5_isNewDeal_0 : decode cX5_isNewDeal 0 = .ok (.iconst 0, 1) := by decide +kernel
theorem dX5_isNewDeal_1 : decode cX5_isNewDeal 1 = .ok (.istore_n 2, 1) := by decide +kernel
theorem dX5_isNewDeal_2 : decode cX5_isNewDeal 2 = .ok (.iload_n 2, 1) := by decide +kernel
theorem dX5_isNewDeal_3 : decode cX5_isNewDeal 3 = .ok (.aload_n 0, 1) := by decide +kernel
theorem dX5_isNewDeal_4 : decode cX5_isNewDeal 4 = .ok (.getfield 34, 3) := by decide +kernel
theorem dX5_isNewDeal_7 : decode cX5_isNewDeal 7 = .ok (.if_icmp .ge 21, 3) := by decide +kernel
theorem dX5_isNewDeal_10 : decode cX5_isNewDeal 10 = .ok (.aload_n 0, 1) := by decide +kernel
theorem dX5_isNewDeal_11 : decode cX5_isNewDeal 11 = .ok (.getfield 18, 3) := by decide +kernel
theorem dX5_isNewDeal_14 : decode cX5_isNewDeal 14 = .ok (.iload_n 2, 1) := by decide +kernel
theorem dX5_isNewDeal_15 : decode cX5_isNewDeal 15 = .ok (.iaload, 1) := by decide +kernel
theorem dX5_isNewDeal_16 : decode cX5_isNewDeal 16 = .ok (.iload_n 1, 1) := by decide +kernel
theorem dX5_isNewDeal_17 : decode cX5_isNewDeal 17 = .ok (.if_icmp .ne 5, 3) := by decide +kernel
theorem dX5_isNewDeal_20 : decode cX5_isNewDeal 20 = .ok (.iconst 0, 1) := by decide +kernel
theorem dX5_isNewDeal_21 : decode cX5_isNewDeal 21 = .ok (.ireturn, 1) := by decide +kernel
theorem dX5_isNewDeal_22 : decode cX5_isNewDeal 22 = .ok (.iinc 2 1, 3) := by decide +kernel
theorem dX5_isNewDeal_25 : decode cX5_isNewDeal 25 = .ok (.goto (-23), 3) := by decide +kernel
theorem dX5_isNewDeal_28 : decode cX5_isNewDeal 28 = .ok (.iconst 1, 1) := by decide +kernel
theorem dX5_isNewDeal_29 : decode cX5_isNewDeal 29 = .ok (.ireturn, 1) := by decide +kernel
theorem dX5_countingOf_0 : decode cX5_countingOf 0 = .ok (.aload_n 0, 1) := by decide +kernel
theorem dX5_countingOf_1 : decode cX5_countingOf 1 = .ok (.getfield 34, 3) := by decide +kernel
theorem dX5_countingOf_4 : decode cX5_countingOf 4 = .ok (.iconst 1, 1) := by decide +kernel
theorem dX5_countingOf_5 : decode cX5_countingOf 5 = .ok (.isub, 1) := by decide +kernel
theorem dX5_countingOf_6 : decode cX5_countingOf 6 = .ok (.istore_n 3, 1) := by decide +kernel
theorem dX5_countingOf_7 : decode cX5_countingOf 7 = .ok (.iload_n 3, 1) := by decide +kernel
theorem dX5_countingOf_8 : decode cX5_countingOf 8 = .ok (.ifCond .lt 40, 3) := by decide +kernel
theorem dX5_countingOf_11 : decode cX5_countingOf 11 = .ok (.aload_n 0, 1) := by decide +kernel
theorem dX5_countingOf_12 : decode cX5_countingOf 12 = .ok (.getfield 30, 3) := by decide +kernel
theorem dX5_countingOf_15 : decode cX5_countingOf 15 = .ok (.iload_n 3, 1) := by decide +kernel
theorem dX5_countingOf_16 : decode cX5_countingOf 16 = .ok (.baload, 1) := by decide +kernel
theorem dX5_countingOf_17 : decode cX5_countingOf 17 = .ok (.ifCond .eq 25, 3) := by decide +kernel
theorem dX5_countingOf_20 : decode cX5_countingOf 20 = .ok (.aload_n 0, 1) := by decide +kernel
theorem dX5_countingOf_21 : decode cX5_countingOf 21 = .ok (.getfield 9, 3) := by decide +kernel
theorem dX5_countingOf_24 : decode cX5_countingOf 24 = .ok (.iload_n 3, 1) := by decide +kernel
theorem dX5_countingOf_25 : decode cX5_countingOf 25 = .ok (.iaload, 1) := by decide +kernel
theorem dX5_countingOf_26 : decode cX5_countingOf 26 = .ok (.iload_n 1, 1) := by decide +kernel
theorem dX5_countingOf_27 : decode cX5_countingOf 27 = .ok (.if_icmp .ne 15, 3) := by decide +kernel
theorem dX5_countingOf_30 : decode cX5_countingOf 30 = .ok (.aload_n 0, 1) := by decide +kernel
theorem dX5_countingOf_31 : decode cX5_countingOf 31 = .ok (.getfield 15, 3) := by decide +kernel
theorem dX5_countingOf_34 : decode cX5_countingOf 34 = .ok (.iload_n 3, 1) := by decide +kernel
theorem dX5_countingOf_35 : decode cX5_countingOf 35 = .ok (.iaload, 1) := by decide +kernel
theorem dX5_countingOf_36 : decode cX5_countingOf 36 = .ok (.iload_n 2, 1) := by decide +kernel
theorem dX5_countingOf_37 : decode cX5_countingOf 37 = .ok (.if_icmp .ne 5, 3) := by decide +kernel
theorem dX5_countingOf_40 : decode cX5_countingOf 40 = .ok (.iload_n 3, 1) := by decide +kernel
theorem dX5_countingOf_41 : decode cX5_countingOf 41 = .ok (.ireturn, 1) := by decide +kernel
theorem dX5_countingOf_42 : decode cX5_countingOf 42 = .ok (.iinc 3 (-1), 3) := by decide +kernel
theorem dX5_countingOf_45 : decode cX5_countingOf 45 = .ok (.goto (-38), 3) := by decide +kernel
theorem dX5_countingOf_48 : decode cX5_countingOf 48 = .ok (.bipush (-4), 2) := by decide +kernel
theorem dX5_countingOf_50 : decode cX5_countingOf 50 = .ok (.ireturn, 1) := by decide +kernel
theorem dX5_doesCount_0 : decode cX5_doesCount 0 = .ok (.aload_n 0, 1) := by decide +kernel
theorem dX5_doesCount_1 : decode cX5_doesCount 1 = .ok (.aload_n 0, 1) := by decide +kernel
theorem dX5_doesCount_2 : decode cX5_doesCount 2 = .ok (.getfield 9, 3) := by decide +kernel
theorem dX5_doesCount_5 : decode cX5_doesCount 5 = .ok (.iload_n 1, 1) := by decide +kernel
theorem dX5_doesCount_6 : decode cX5_doesCount 6 = .ok (.iaload, 1) := by decide +kernel
theorem dX5_doesCount_7 : decode cX5_doesCount 7 = .ok (.aload_n 0, 1) := by decide +kernel
theorem dX5_doesCount_8 : decode cX5_doesCount 8 = .ok (.getfield 15, 3) := by decide +kernel
theorem dX5_doesCount_11 : decode cX5_doesCount 11 = .ok (.iload_n 1, 1) := by decide +kernel
theorem dX5_doesCount_12 : decode cX5_doesCount 12 = .ok (.iaload, 1) := by decide +kernel
theorem dX5_doesCount_13 : decode cX5_doesCount 13 = .ok (.invokevirtual 42, 3) := by decide +kernel
theorem dX5_doesCount_16 : decode cX5_doesCount 16 = .ok (.iload_n 1, 1) := by decide +kernel
theorem dX5_doesCount_17 : decode cX5_doesCount 17 = .ok (.if_icmp .ne 7, 3) := by decide +kernel
theorem dX5_doesCount_20 : decode cX5_doesCount 20 = .ok (.iconst 1, 1) := by decide +kernel
theorem dX5_doesCount_21 : decode cX5_doesCount 21 = .ok (.goto 4, 3) := by decide +kernel
theorem dX5_doesCount_24 : decode cX5_doesCount 24 = .ok (.iconst 0, 1) := by decide +kernel
theorem dX5_doesCount_25 : decode cX5_doesCount 25 = .ok (.ireturn, 1) := by decide +kernel
theorem dX5_countingOnes_0 : decode cX5_countingOnes 0 = .ok (.iconst 0, 1) := by decide +kernel
theorem dX5_countingOnes_1 : decode cX5_countingOnes 1 = .ok (.istore_n 1, 1) := by decide +kernel
theorem dX5_countingOnes_2 : decode cX5_countingOnes 2 = .ok (.iconst 0, 1) := by decide +kernel
theorem dX5_countingOnes_3 : decode cX5_countingOnes 3 = .ok (.istore_n 2, 1) := by decide +kernel
theorem dX5_countingOnes_4 : decode cX5_countingOnes 4 = .ok (.iload_n 2, 1) := by decide +kernel
theorem dX5_countingOnes_5 : decode cX5_countingOnes 5 = .ok (.aload_n 0, 1) := by decide +kernel
theorem dX5_countingOnes_6 : decode cX5_countingOnes 6 = .ok (.getfield 34, 3) := by decide +kernel
theorem dX5_countingOnes_9 : decode cX5_countingOnes 9 = .ok (.if_icmp .ge 20, 3) := by decide +kernel
theorem dX5_countingOnes_12 : decode cX5_countingOnes 12 = .ok (.iload_n 1, 1) := by decide +kernel
theorem dX5_countingOnes_13 : decode cX5_countingOnes 13 = .ok (.aload_n 0, 1) := by decide +kernel
theorem dX5_countingOnes_14 : decode cX5_countingOnes 14 = .ok (.iload_n 2, 1) := by decide +kernel
theorem dX5_countingOnes_15 : decode cX5_countingOnes 15 = .ok (.invokevirtual 46, 3) := by decide +kernel
theorem dX5_countingOnes_18 : decode cX5_countingOnes 18 = .ok (.invokestatic 49, 3) := by decide +kernel
theorem dX5_countingOnes_21 : decode cX5_countingOnes 21 = .ok (.iadd, 1) := by decide +kernel
theorem dX5_countingOnes_22 : decode cX5_countingOnes 22 = .ok (.istore_n 1, 1) := by decide +kernel
theorem dX5_countingOnes_23 : decode cX5_countingOnes 23 = .ok (.iinc 2 1, 3) := by decide +kernel
theorem dX5_countingOnes_26 : decode cX5_countingOnes 26 = .ok (.goto (-22), 3) := by decide +kernel
theorem dX5_countingOnes_29 : decode cX5_countingOnes 29 = .ok (.iload_n 1, 1) := by decide +kernel
theorem dX5_countingOnes_30 : decode cX5_countingOnes 30 = .ok (.ireturn, 1) := by decide +kernel
theorem dX6_init_0 : decode cX6_init 0 = .ok (.aload_n 0, 1) := by decide +kernel
theorem dX6_init_1 : decode cX6_init 1 = .ok (.invokespecial 3, 3) := by decide +kernel
theorem dX6_init_4 : decode cX6_init 4 = .ok (.aload_n 0, 1) := by decide +kernel
theorem dX6_init_5 : decode cX6_init 5 = .ok (.new 9, 3) := by decide +kernel
theorem dX6_init_8 : decode cX6_init 8 = .ok (.dup, 1) := by decide +kernel
theorem dX6_init_9 : decode cX6_init 9 = .ok (.invokespecial 11, 3) := by decide +kernel
theorem dX6_init_12 : decode cX6_init 12 = .ok (.putfield 12, 3) := by decide +kernel
theorem dX6_init_15 : decode cX6_init 15 = .ok (.aload_n 0, 1) := by decide +kernel
theorem dX6_init_16 : decode cX6_init 16 = .ok (.new 16, 3) := by decide +kernel
theorem dX6_init_19 : decode cX6_init 19 = .ok (.dup, 1) := by decide +kernel
theorem dX6_init_20 : decode cX6_init 20 = .ok (.invokespecial 18, 3) := by decide +kernel
theorem dX6_init_23 : decode cX6_init 23 = .ok (.putfield 19, 3) := by decide +kernel
theorem dX6_init_26 : decode cX6_init 26 = .ok (.aload_n 0, 1) := by decide +kernel
theorem dX6_init_27 : decode cX6_init 27 = .ok (.new 23, 3) := by decide +kernel
theorem dX6_init_30 : decode cX6_init 30 = .ok (.dup, 1) := by decide +kernel
theorem dX6_init_31 : decode cX6_init 31 = .ok (.invokespecial 25, 3) := by decide +kernel
theorem dX6_init_34 : decode cX6_init 34 = .ok (.putfield 26, 3) := by decide +kernel
theorem dX6_init_37 : decode cX6_init 37 = .ok (.aload_n 0, 1) := by decide +kernel
theorem dX6_init_38 : decode cX6_init 38 = .ok (.new 30, 3) := by decide +kernel
theorem dX6_init_41 : decode cX6_init 41 = .ok (.dup, 1) := by decide +kernel
theorem dX6_init_42 : decode cX6_init 42 = .ok (.invokespecial 32, 3) := by decide +kernel
theorem dX6_init_45 : decode cX6_init 45 = .ok (.putfield 33, 3) := by decide +kernel
theorem dX6_init_48 : decode cX6_init 48 = .ok (.aload_n 0, 1) := by decide +kernel
theorem dX6_init_49 : decode cX6_init 49 = .ok (.new 37, 3) := by decide +kernel
theorem dX6_init_52 : decode cX6_init 52 = .ok (.dup, 1) := by decide +kernel
theorem dX6_init_53 : decode cX6_init 53 = .ok (.invokespecial 39, 3) := by decide +kernel
theorem dX6_init_56 : decode cX6_init 56 = .ok (.putfield 40, 3) := by decide +kernel
theorem dX6_init_59 : decode cX6_init 59 = .ok (.aload_n 0, 1) := by decide +kernel
theorem dX6_init_60 : decode cX6_init 60 = .ok (.iconst 4, 1) := by decide +kernel
theorem dX6_init_61 : decode cX6_init 61 = .ok (.anewarray 44, 3) := by decide +kernel
theorem dX6_init_64 : decode cX6_init 64 = .ok (.putfield 46, 3) := by decide +kernel
theorem dX6_init_67 : decode cX6_init 67 = .ok (.aload_n 0, 1) := by decide +kernel
theorem dX6_init_68 : decode cX6_init 68 = .ok (.bipush 10, 2) := by decide +kernel
theorem dX6_init_70 : decode cX6_init 70 = .ok (.newarray .int, 2) := by decide +kernel
theorem dX6_init_72 : decode cX6_init 72 = .ok (.putfield 50, 3) := by decide +kernel
theorem dX6_init_75 : decode cX6_init 75 = .ok (.aload_n 0, 1) := by decide +kernel
theorem dX6_init_76 : decode cX6_init 76 = .ok (.bipush 10, 2) := by decide +kernel
theorem dX6_init_78 : decode cX6_init 78 = .ok (.newarray .int, 2) := by decide +kernel
theorem dX6_init_80 : decode cX6_init 80 = .ok (.putfield 54, 3) := by decide +kernel
theorem dX6_init_83 : decode cX6_init 83 = .ok (.aload_n 0, 1) := by decide +kernel
theorem dX6_init_84 : decode cX6_init 84 = .ok (.bipush 12, 2) := by decide +kernel
theorem dX6_init_86 : decode cX6_init 86 = .ok (.newarray .int, 2) := by decide +kernel
theorem dX6_init_88 : decode cX6_init 88 = .ok (.putfield 57, 3) := by decide +kernel
theorem dX6_init_91 : decode cX6_init 91 = .ok (.aload_n 0, 1) := by decide +kernel
theorem dX6_init_92 : decode cX6_init 92 = .ok (.bipush 12, 2) := by decide +kernel
theorem dX6_init_94 : decode cX6_init 94 = .ok (.newarray .int, 2) := by decide +kernel
theorem dX6_init_96 : decode cX6_init 96 = .ok (.putfield 60, 3) := by decide +kernel
theorem dX6_init_99 : decode cX6_init 99 = .ok (.aload_n 0, 1) := by decide +kernel
theorem dX6_init_100 : decode cX6_init 100 = .ok (.bipush 12, 2) := by decide +kernel
theorem dX6_init_102 : decode cX6_init 102 = .ok (.newarray .int, 2) := by decide +kernel
theorem dX6_init_104 : decode cX6_init 104 = .ok (.putfield 63, 3) := by decide +kernel
theorem dX6_init_107 : decode cX6_init 107 = .ok (.getstatic 66, 3) := by decide +kernel
theorem dX6_init_110 : decode cX6_init 110 = .ok (.iconst 0, 1) := by decide +kernel
theorem dX6_init_111 : decode cX6_init 111 = .ok (.aload_n 0, 1) := by decide +kernel
theorem dX6_init_112 : decode cX6_init 112 = .ok (.getfield 50, 3) := by decide +kernel
theorem dX6_init_115 : decode cX6_init 115 = .ok (.iconst 0, 1) := by decide +kernel
theorem dX6_init_116 : decode cX6_init 116 = .ok (.bipush 10, 2) := by decide +kernel
theorem dX6_init_118 : decode cX6_init 118 = .ok (.invokestatic 69, 3) := by decide +kernel
theorem dX6_init_121 : decode cX6_init 121 = .ok (.iconst 0, 1) := by decide +kernel
theorem dX6_init_122 : decode cX6_init 122 = .ok (.istore_n 1, 1) := by decide +kernel
theorem dX6_init_123 : decode cX6_init 123 = .ok (.iload_n 1, 1) := by decide +kernel
theorem dX6_init_124 : decode cX6_init 124 = .ok (.iconst 4, 1) := by decide +kernel
theorem dX6_init_125 : decode cX6_init 125 = .ok (.if_icmp .ge 22, 3) := by decide +kernel
theorem dX6_init_128 : decode cX6_init 128 = .ok (.aload_n 0, 1) := by decide +kernel
theorem dX6_init_129 : decode cX6_init 129 = .ok (.getfield 46, 3) := by decide +kernel
theorem dX6_init_132 : decode cX6_init 132 = .ok (.iload_n 1, 1) := by decide +kernel
theorem dX6_init_133 : decode cX6_init 133 = .ok (.new 44, 3) := by decide +kernel
theorem dX6_init_136 : decode cX6_init 136 = .ok (.dup, 1) := by decide +kernel
theorem dX6_init_137 : decode cX6_init 137 = .ok (.invokespecial 75, 3) := by decide +kernel
theorem dX6_init_140 : decode cX6_init 140 = .ok (.aastore, 1) := by decide +kernel
theorem dX6_init_141 : decode cX6_init 141 = .ok (.iinc 1 1, 3) := by decide +kernel
theorem dX6_init_144 : decode cX6_init 144 = .ok (.goto (-21), 3) := by decide +kernel
theorem dX6_init_147 : decode cX6_init 147 = .ok (.return_, 1) := by decide +kernel
theorem dX6_name_0 : decode cX6_name 0 = .ok (.iload_n 1, 1) := by decide +kernel
theorem dX6_name_1 : decode cX6_name 1 = .ok (.iconst 0, 1) := by decide +kernel
theorem dX6_name_2 : decode cX6_name 2 = .ok (.sipush 999, 3) := by decide +kernel
theorem dX6_name_5 : decode cX6_name 5 = .ok (.invokestatic 76, 3) := by decide +kernel
theorem dX6_name_8 : decode cX6_name 8 = .ok (.ifCond .ne 5, 3) := by decide +kernel
theorem dX6_name_11 : decode cX6_name 11 = .ok (.iconst (-1), 1) := by decide +kernel
theorem dX6_name_12 : decode cX6_name 12 = .ok (.ireturn, 1) := by decide +kernel
theorem dX6_name_13 : decode cX6_name 13 = .ok (.aload_n 0, 1) := by decide +kernel
theorem dX6_name_14 : decode cX6_name 14 = .ok (.getfield 12, 3) := by decide +kernel
theorem dX6_name_17 : decode cX6_name 17 = .ok (.iload_n 1, 1) := by decide +kernel
theorem dX6_name_18 : decode cX6_name 18 = .ok (.invokevirtual 80, 3) := by decide +kernel
theorem dX6_name_21 : decode cX6_name 21 = .ok (.ireturn, 1) := by decide +kernel
theorem dX6_seed_0 : decode cX6_seed 0 = .ok (.aload_n 0, 1) := by decide +kernel
theorem dX6_seed_1 : decode cX6_seed 1 = .ok (.iload_n 1, 1) := by decide +kernel
theorem dX6_seed_2 : decode cX6_seed 2 = .ok (.invokevirtual 84, 3) := by decide +kernel
theorem dX6_seed_5 : decode cX6_seed 5 = .ok (.ifCond .ne 5, 3) := by decide +kernel
theorem dX6_seed_8 : decode cX6_seed 8 = .ok (.iconst (-1), 1) := by decide +kernel
theorem dX6_seed_9 : decode cX6_seed 9 = .ok (.ireturn, 1) := by decide +kernel
theorem dX6_seed_10 : decode cX6_seed 10 = .ok (.aload_n 0, 1) := by decide +kernel
theorem dX6_seed_11 : decode cX6_seed 11 = .ok (.getfield 12, 3) := by decide +kernel
theorem dX6_seed_14 : decode cX6_seed 14 = .ok (.getfield 88, 3) := by decide +kernel
theorem dX6_seed_17 : decode cX6_seed 17 = .ok (.iload_n 1, 1) := by decide +kernel
theorem dX6_seed_18 : decode cX6_seed 18 = .ok (.baload, 1) := by decide +kernel
theorem dX6_seed_19 : decode cX6_seed 19 = .ok (.invokestatic 92, 3) := by decide +kernel
theorem dX6_seed_22 : decode cX6_seed 22 = .ok (.istore_n 3, 1) := by decide +kernel
theorem dX6_seed_23 : decode cX6_seed 23 = .ok (.aload_n 0, 1) := by decide +kernel
theorem dX6_seed_24 : decode cX6_seed 24 = .ok (.getfield 12, 3) := by decide +kernel
theorem dX6_seed_27 : decode cX6_seed 27 = .ok (.getfield 88, 3) := by decide +kernel
theorem dX6_seed_30 : decode cX6_seed 30 = .ok (.iload_n 1, 1) := by decide +kernel
theorem dX6_seed_31 : decode cX6_seed 31 = .ok (.iload_n 2, 1) := by decide +kernel
theorem dX6_seed_32 : decode cX6_seed 32 = .ok (.bastore, 1) := by decide +kernel
theorem dX6_seed_33 : decode cX6_seed 33 = .ok (.iload_n 3, 1) := by decide +kernel
theorem dX6_seed_34 : decode cX6_seed 34 = .ok (.ireturn, 1) := by decide +kernel
theorem dX6_pledge_0 : decode cX6_pledge 0 = .ok (.aload_n 0, 1) := by decide +kernel
theorem dX6_pledge_1 : decode cX6_pledge 1 = .ok (.iload_n 1, 1) := by decide +kernel
theorem dX6_pledge_2 : decode cX6_pledge 2 = .ok (.invokevirtual 84, 3) := by decide +kernel
theorem dX6_pledge_5 : decode cX6_pledge 5 = .ok (.ifCond .eq 14, 3) := by decide +kernel
theorem dX6_pledge_8 : decode cX6_pledge 8 = .ok (.iload_n 2, 1) := by decide +kernel
theorem dX6_pledge_9 : decode cX6_pledge 9 = .ok (.iconst 1, 1) := by decide +kernel
theorem dX6_pledge_10 : decode cX6_pledge 10 = .ok (.sipush 999, 3) := by decide +kernel
theorem dX6_pledge_13 : decode cX6_pledge 13 = .ok (.invokestatic 76, 3) := by decide +kernel
theorem dX6_pledge_16 : decode cX6_pledge 16 = .ok (.ifCond .ne 5, 3) := by decide +kernel
theorem dX6_pledge_19 : decode cX6_pledge 19 = .ok (.iconst (-1), 1) := by decide +kernel
theorem dX6_pledge_20 : decode cX6_pledge 20 = .ok (.ireturn, 1) := by decide +kernel
theorem dX6_pledge_21 : decode cX6_pledge 21 = .ok (.aload_n 0, 1) := by decide +kernel
theorem dX6_pledge_22 : decode cX6_pledge 22 = .ok (.getfield 12, 3) := by decide +kernel
theorem dX6_pledge_25 : decode cX6_pledge 25 = .ok (.getfield 96, 3) := by decide +kernel
theorem dX6_pledge_28 : decode cX6_pledge 28 = .ok (.iload_n 1, 1) := by decide +kernel
theorem dX6_pledge_29 : decode cX6_pledge 29 = .ok (.baload, 1) := by decide +kernel
theorem dX6_pledge_30 : decode cX6_pledge 30 = .ok (.ifCond .eq 6, 3) := by decide +kernel
theorem dX6_pledge_33 : decode cX6_pledge 33 = .ok (.bipush (-2), 2) := by decide +kernel
theorem dX6_pledge_35 : decode cX6_pledge 35 = .ok (.ireturn, 1) := by decide +kernel
theorem dX6_pledge_36 : decode cX6_pledge 36 = .ok (.aload_n 0, 1) := by decide +kernel
theorem dX6_pledge_37 : decode cX6_pledge 37 = .ok (.getfield 12, 3) := by decide +kernel
theorem dX6_pledge_40 : decode cX6_pledge 40 = .ok (.getfield 99, 3) := by decide +kernel
theorem dX6_pledge_43 : decode cX6_pledge 43 = .ok (.iload_n 1, 1) := by decide +kernel
theorem dX6_pledge_44 : decode cX6_pledge 44 = .ok (.dup2, 1) := by decide +kernel
theorem dX6_pledge_45 : decode cX6_pledge 45 = .ok (.iaload, 1) := by decide +kernel
theorem dX6_pledge_46 : decode cX6_pledge 46 = .ok (.iload_n 2, 1) := by decide +kernel
theorem dX6_pledge_47 : decode cX6_pledge 47 = .ok (.iadd, 1) := by decide +kernel
theorem dX6_pledge_48 : decode cX6_pledge 48 = .ok (.iastore, 1) := by decide +kernel
theorem dX6_pledge_49 : decode cX6_pledge 49 = .ok (.aload_n 0, 1) := by decide +kernel
theorem dX6_pledge_50 : decode cX6_pledge 50 = .ok (.iload_n 1, 1) := by decide +kernel
theorem dX6_pledge_51 : decode cX6_pledge 51 = .ok (.invokevirtual 102, 3) := by decide +kernel
theorem dX6_pledge_54 : decode cX6_pledge 54 = .ok (.ireturn, 1) := by decide +kernel
theorem dX6_tie_0 : decode cX6_tie 0 = .ok (.aload_n 0, 1) := by decide +kernel
theorem dX6_tie_1 : decode cX6_tie 1 = .ok (.iload_n 1, 1) := by decide +kernel
theorem dX6_tie_2 : decode cX6_tie 2 = .ok (.iload_n 2, 1) := by decide +kernel
theorem dX6_tie_3 : decode cX6_tie 3 = .ok (.invokevirtual 105, 3) := by decide +kernel
theorem dX6_tie_6 : decode cX6_tie 6 = .ok (.ifCond .eq 24, 3) := by decide +kernel
theorem dX6_tie_9 : decode cX6_tie 9 = .ok (.iload_n 3, 1) := by decide +kernel
theorem dX6_tie_10 : decode cX6_tie 10 = .ok (.iconst 1, 1) := by decide +kernel
theorem dX6_tie_11 : decode cX6_tie 11 = .ok (.sipush 999, 3) := by decide +kernel
theorem dX6_tie_14 : decode cX6_tie 14 = .ok (.invokestatic 76, 3) := by decide +kernel
theorem dX6_tie_17 : decode cX6_tie 17 = .ok (.ifCond .eq 13, 3) := by decide +kernel
theorem dX6_tie_20 : decode cX6_tie 20 = .ok (.iload 4, 2) := by decide +kernel
theorem dX6_tie_22 : decode cX6_tie 22 = .ok (.iconst 0, 1) := by decide +kernel
theorem dX6_tie_23 : decode cX6_tie 23 = .ok (.iconst 3, 1) := by decide +kernel
theorem dX6_tie_24 : decode cX6_tie 24 = .ok (.invokestatic 76, 3) := by decide +kernel
theorem dX6_tie_27 : decode cX6_tie 27 = .ok (.ifCond .ne 5, 3) := by decide +kernel
theorem dX6_tie_30 : decode cX6_tie 30 = .ok (.iconst (-1), 1) := by decide +kernel
theorem dX6_tie_31 : decode cX6_tie 31 = .ok (.ireturn, 1) := by decide +kernel
theorem dX6_tie_32 : decode cX6_tie 32 = .ok (.aload_n 0, 1) := by decide +kernel
theorem dX6_tie_33 : decode cX6_tie 33 = .ok (.getfield 19, 3) := by decide +kernel
theorem dX6_tie_36 : decode cX6_tie 36 = .ok (.getfield 109, 3) := by decide +kernel
theorem dX6_tie_39 : decode cX6_tie 39 = .ok (.bipush 24, 2) := by decide +kernel
theorem dX6_tie_41 : decode cX6_tie 41 = .ok (.if_icmp .lt 6, 3) := by decide +kernel
theorem dX6_tie_44 : decode cX6_tie 44 = .ok (.bipush (-3), 2) := by decide +kernel
theorem dX6_tie_46 : decode cX6_tie 46 = .ok (.ireturn, 1) := by decide +kernel
theorem dX6_tie_47 : decode cX6_tie 47 = .ok (.aload_n 0, 1) := by decide +kernel
theorem dX6_tie_48 : decode cX6_tie 48 = .ok (.getfield 12, 3) := by decide +kernel
theorem dX6_tie_51 : decode cX6_tie 51 = .ok (.getfield 96, 3) := by decide +kernel
theorem dX6_tie_54 : decode cX6_tie 54 = .ok (.iload_n 1, 1) := by decide +kernel
theorem dX6_tie_55 : decode cX6_tie 55 = .ok (.baload, 1) := by decide +kernel
theorem dX6_tie_56 : decode cX6_tie 56 = .ok (.ifCond .ne 15, 3) := by decide +kernel
theorem dX6_tie_59 : decode cX6_tie 59 = .ok (.aload_n 0, 1) := by decide +kernel
theorem dX6_tie_60 : decode cX6_tie 60 = .ok (.getfield 12, 3) := by decide +kernel
theorem dX6_tie_63 : decode cX6_tie 63 = .ok (.getfield 96, 3) := by decide +kernel
theorem dX6_tie_66 : decode cX6_tie 66 = .ok (.iload_n 2, 1) := by decide +kernel
theorem dX6_tie_67 : decode cX6_tie 67 = .ok (.baload, 1) := by decide +kernel
theorem dX6_tie_68 : decode cX6_tie 68 = .ok (.ifCond .eq 6, 3) := by decide +kernel
theorem dX6_tie_71 : decode cX6_tie 71 = .ok (.bipush (-2), 2) := by decide +kernel
theorem dX6_tie_73 : decode cX6_tie 73 = .ok (.ireturn, 1) := by decide +kernel
theorem dX6_tie_74 : decode cX6_tie 74 = .ok (.aload_n 0, 1) := by decide +kernel
theorem dX6_tie_75 : decode cX6_tie 75 = .ok (.getfield 19, 3) := by decide +kernel
theorem dX6_tie_78 : decode cX6_tie 78 = .ok (.iload_n 1, 1) := by decide +kernel
theorem dX6_tie_79 : decode cX6_tie 79 = .ok (.iload_n 2, 1) := by decide +kernel
theorem dX6_tie_80 : decode cX6_tie 80 = .ok (.iload_n 3, 1) := by decide +kernel
theorem dX6_tie_81 : decode cX6_tie 81 = .ok (.iload 4, 2) := by decide +kernel
theorem dX6_tie_83 : decode cX6_tie 83 = .ok (.aload_n 0, 1) := by decide +kernel
theorem dX6_tie_84 : decode cX6_tie 84 = .ok (.getfield 113, 3) := by decide +kernel
theorem dX6_tie_87 : decode cX6_tie 87 = .ok (.invokevirtual 116, 3) := by decide +kernel
theorem dX6_tie_90 : decode cX6_tie 90 = .ok (.ireturn, 1) := by decide +kernel
theorem dX6_tieOf_0 : decode cX6_tieOf 0 = .ok (.aload_n 0, 1) := by decide +kernel
theorem dX6_tieOf_1 : decode cX6_tieOf 1 = .ok (.iload_n 1, 1) := by decide +kernel
theorem dX6_tieOf_2 : decode cX6_tieOf 2 = .ok (.invokevirtual 119, 3) := by decide +kernel
theorem dX6_tieOf_5 : decode cX6_tieOf 5 = .ok (.ifCond .ne 5, 3) := by decide +kernel
theorem dX6_tieOf_8 : decode cX6_tieOf 8 = .ok (.iconst (-1), 1) := by decide +kernel
theorem dX6_tieOf_9 : decode cX6_tieOf 9 = .ok (.ireturn, 1) := by decide +kernel
theorem dX6_tieOf_10 : decode cX6_tieOf 10 = .ok (.iload_n 2, 1) := by decide +kernel
theorem dX6_tieOf_11 : decode cX6_tieOf 11 = .ok (.tableswitch 93 0 5 #[37, 47, 57, 67, 77, 87], 37) := by decide +kernel
theorem dX6_tieOf_48 : decode cX6_tieOf 48 = .ok (.aload_n 0, 1) := by decide +kernel
theorem dX6_tieOf_49 : decode cX6_tieOf 49 = .ok (.getfield 19, 3) := by decide +kernel
theorem dX6_tieOf_52 : decode cX6_tieOf 52 = .ok (.getfield 122, 3) := by decide +kernel
theorem dX6_tieOf_55 : decode cX6_tieOf 55 = .ok (.iload_n 1, 1) := by decide +kernel
theorem dX6_tieOf_56 : decode cX6_tieOf 56 = .ok (.iaload, 1) := by decide +kernel
theorem dX6_tieOf_57 : decode cX6_tieOf 57 = .ok (.ireturn, 1) := by decide +kernel
theorem dX6_tieOf_58 : decode cX6_tieOf 58 = .ok (.aload_n 0, 1) := by decide +kernel
theorem dX6_tieOf_59 : decode cX6_tieOf 59 = .ok (.getfield 19, 3) := by decide +kernel
theorem dX6_tieOf_62 : decode cX6_tieOf 62 = .ok (.getfield 125, 3) := by decide +kernel
theorem dX6_tieOf_65 : decode cX6_tieOf 65 = .ok (.iload_n 1, 1) := by decide +kernel
theorem dX6_tieOf_66 : decode cX6_tieOf 66 = .ok (.iaload, 1) := by decide +kernel
theorem dX6_tieOf_67 : decode cX6_tieOf 67 = .ok (.ireturn, 1) := by decide +kernel
theorem dX6_tieOf_68 : decode cX6_tieOf 68 = .ok (.aload_n 0, 1) := by decide +kernel
theorem dX6_tieOf_69 : decode cX6_tieOf 69 = .ok (.getfield 19, 3) := by decide +kernel
theorem dX6_tieOf_72 : decode cX6_tieOf 72 = .ok (.getfield 128, 3) := by decide +kernel
theorem dX6_tieOf_75 : decode cX6_tieOf 75 = .ok (.iload_n 1, 1) := by decide +kernel
theorem dX6_tieOf_76 : decode cX6_tieOf 76 = .ok (.iaload, 1) := by decide +kernel
theorem dX6_tieOf_77 : decode cX6_tieOf 77 = .ok (.ireturn, 1) := by decide +kernel
theorem dX6_tieOf_78 : decode cX6_tieOf 78 = .ok (.aload_n 0, 1) := by decide +kernel
theorem dX6_tieOf_79 : decode cX6_tieOf 79 = .ok (.getfield 19, 3) := by decide +kernel
theorem dX6_tieOf_82 : decode cX6_tieOf 82 = .ok (.getfield 131, 3) := by decide +kernel
theorem dX6_tieOf_85 : decode cX6_tieOf 85 = .ok (.iload_n 1, 1) := by decide +kernel
theorem dX6_tieOf_86 : decode cX6_tieOf 86 = .ok (.iaload, 1) := by decide +kernel
theorem dX6_tieOf_87 : decode cX6_tieOf 87 = .ok (.ireturn, 1) := by decide +kernel
theorem dX6_tieOf_88 : decode cX6_tieOf 88 = .ok (.aload_n 0, 1) := by decide +kernel
theorem dX6_tieOf_89 : decode cX6_tieOf 89 = .ok (.getfield 19, 3) := by decide +kernel
theorem dX6_tieOf_92 : decode cX6_tieOf 92 = .ok (.getfield 134, 3) := by decide +kernel
theorem dX6_tieOf_95 : decode cX6_tieOf 95 = .ok (.iload_n 1, 1) := by decide +kernel
theorem dX6_tieOf_96 : decode cX6_tieOf 96 = .ok (.iaload, 1) := by decide +kernel
theorem dX6_tieOf_97 : decode cX6_tieOf 97 = .ok (.ireturn, 1) := by decide +kernel
theorem dX6_tieOf_98 : decode cX6_tieOf 98 = .ok (.aload_n 0, 1) := by decide +kernel
theorem dX6_tieOf_99 : decode cX6_tieOf 99 = .ok (.iload_n 1, 1) := by decide +kernel
theorem dX6_tieOf_100 : decode cX6_tieOf 100 = .ok (.invokevirtual 137, 3) := by decide +kernel
theorem dX6_tieOf_103 : decode cX6_tieOf 103 = .ok (.ireturn, 1) := by decide +kernel
theorem dX6_tieOf_104 : decode cX6_tieOf 104 = .ok (.iconst (-1), 1) := by decide +kernel
theorem dX6_tieOf_105 : decode cX6_tieOf 105 = .ok (.ireturn, 1) := by decide +kernel
theorem dX6_renew_0 : decode cX6_renew 0 = .ok (.aload_n 0, 1) := by decide +kernel
theorem dX6_renew_1 : decode cX6_renew 1 = .ok (.iload_n 1, 1) := by decide +kernel
theorem dX6_renew_2 : decode cX6_renew 2 = .ok (.invokevirtual 119, 3) := by decide +kernel
theorem dX6_renew_5 : decode cX6_renew 5 = .ok (.ifCond .ne 5, 3) := by decide +kernel
theorem dX6_renew_8 : decode cX6_renew 8 = .ok (.iconst (-1), 1) := by decide +kernel
theorem dX6_renew_9 : decode cX6_renew 9 = .ok (.ireturn, 1) := by decide +kernel
theorem dX6_renew_10 : decode cX6_renew 10 = .ok (.aload_n 0, 1) := by decide +kernel
theorem dX6_renew_11 : decode cX6_renew 11 = .ok (.iload_n 1, 1) := by decide +kernel
theorem dX6_renew_12 : decode cX6_renew 12 = .ok (.invokevirtual 140, 3) := by decide +kernel
theorem dX6_renew_15 : decode cX6_renew 15 = .ok (.ifCond .eq 6, 3) := by decide +kernel
theorem dX6_renew_18 : decode cX6_renew 18 = .ok (.bipush (-2), 2) := by decide +kernel
theorem dX6_renew_20 : decode cX6_renew 20 = .ok (.ireturn, 1) := by decide +kernel
theorem dX6_renew_21 : decode cX6_renew 21 = .ok (.aload_n 0, 1) := by decide +kernel
theorem dX6_renew_22 : decode cX6_renew 22 = .ok (.getfield 113, 3) := by decide +kernel
theorem dX6_renew_25 : decode cX6_renew 25 = .ok (.aload_n 0, 1) := by decide +kernel
theorem dX6_renew_26 : decode cX6_renew 26 = .ok (.getfield 19, 3) := by decide +kernel
theorem dX6_renew_29 : decode cX6_renew 29 = .ok (.getfield 134, 3) := by decide +kernel
theorem dX6_renew_32 : decode cX6_renew 32 = .ok (.iload_n 1, 1) := by decide +kernel
theorem dX6_renew_33 : decode cX6_renew 33 = .ok (.iaload, 1) := by decide +kernel
theorem dX6_renew_34 : decode cX6_renew 34 = .ok (.isub, 1) := by decide +kernel
theorem dX6_renew_35 : decode cX6_renew 35 = .ok (.istore_n 2, 1) := by decide +kernel
theorem dX6_renew_36 : decode cX6_renew 36 = .ok (.aload_n 0, 1) := by decide +kernel
theorem dX6_renew_37 : decode cX6_renew 37 = .ok (.getfield 19, 3) := by decide +kernel
theorem dX6_renew_40 : decode cX6_renew 40 = .ok (.getfield 134, 3) := by decide +kernel
theorem dX6_renew_43 : decode cX6_renew 43 = .ok (.iload_n 1, 1) := by decide +kernel
theorem dX6_renew_44 : decode cX6_renew 44 = .ok (.aload_n 0, 1) := by decide +kernel
theorem dX6_renew_45 : decode cX6_renew 45 = .ok (.getfield 113, 3) := by decide +kernel
theorem dX6_renew_48 : decode cX6_renew 48 = .ok (.iastore, 1) := by decide +kernel
theorem dX6_renew_49 : decode cX6_renew 49 = .ok (.iload_n 2, 1) := by decide +kernel
theorem dX6_renew_50 : decode cX6_renew 50 = .ok (.ireturn, 1) := by decide +kernel
theorem dX6_of_0 : decode cX6_of 0 = .ok (.aload_n 0, 1) := by decide +kernel
theorem dX6_of_1 : decode cX6_of 1 = .ok (.iload_n 1, 1) := by decide +kernel
theorem dX6_of_2 : decode cX6_of 2 = .ok (.invokevirtual 84, 3) := by decide +kernel
theorem dX6_of_5 : decode cX6_of 5 = .ok (.ifCond .ne 5, 3) := by decide +kernel
theorem dX6_of_8 : decode cX6_of 8 = .ok (.iconst (-1), 1) := by decide +kernel
theorem dX6_of_9 : decode cX6_of 9 = .ok (.ireturn, 1) := by decide +kernel
theorem dX6_of_10 : decode cX6_of 10 = .ok (.iload_n 2, 1) := by decide +kernel
theorem dX6_of_11 : decode cX6_of 11 = .ok (.tableswitch 110 0 6 #[41, 51, 64, 77, 86, 96, 102], 41) := by decide +kernel
theorem dX6_of_52 : decode cX6_of 52 = .ok (.aload_n 0, 1) := by decide +kernel
theorem dX6_of_53 : decode cX6_of 53 = .ok (.getfield 12, 3) := by decide +kernel
theorem dX6_of_56 : decode cX6_of 56 = .ok (.getfield 143, 3) := by decide +kernel
theorem dX6_of_59 : decode cX6_of 59 = .ok (.iload_n 1, 1) := by decide +kernel
theorem dX6_of_60 : decode cX6_of 60 = .ok (.iaload, 1) := by decide +kernel
theorem dX6_of_61 : decode cX6_of 61 = .ok (.ireturn, 1) := by decide +kernel
theorem dX6_of_62 : decode cX6_of 62 = .ok (.aload_n 0, 1) := by decide +kernel
theorem dX6_of_63 : decode cX6_of 63 = .ok (.getfield 12, 3) := by decide +kernel
theorem dX6_of_66 : decode cX6_of 66 = .ok (.getfield 88, 3) := by decide +kernel
theorem dX6_of_69 : decode cX6_of 69 = .ok (.iload_n 1, 1) := by decide +kernel
theorem dX6_of_70 : decode cX6_of 70 = .ok (.baload, 1) := by decide +kernel
theorem dX6_of_71 : decode cX6_of 71 = .ok (.invokestatic 92, 3) := by decide +kernel
theorem dX6_of_74 : decode cX6_of 74 = .ok (.ireturn, 1) := by decide +kernel
theorem dX6_of_75 : decode cX6_of 75 = .ok (.aload_n 0, 1) := by decide +kernel
theorem dX6_of_76 : decode cX6_of 76 = .ok (.getfield 12, 3) := by decide +kernel
theorem dX6_of_79 : decode cX6_of 79 = .ok (.getfield 96, 3) := by decide +kernel
theorem dX6_of_82 : decode cX6_of 82 = .ok (.iload_n 1, 1) := by decide +kernel
theorem dX6_of_83 : decode cX6_of 83 = .ok (.baload, 1) := by decide +kernel
theorem dX6_of_84 : decode cX6_of 84 = .ok (.invokestatic 92, 3) := by decide +kernel
theorem dX6_of_87 : decode cX6_of 87 = .ok (.ireturn, 1) := by decide +kernel
theorem dX6_of_88 : decode cX6_of 88 = .ok (.aload_n 0, 1) := by decide +kernel
theorem dX6_of_89 : decode cX6_of 89 = .ok (.iload_n 1, 1) := by decide +kernel
theorem dX6_of_90 : decode cX6_of 90 = .ok (.invokevirtual 146, 3) := by decide +kernel
theorem dX6_of_93 : decode cX6_of 93 = .ok (.invokestatic 92, 3) := by decide +kernel
theorem dX6_of_96 : decode cX6_of 96 = .ok (.ireturn, 1) := by decide +kernel
theorem dX6_of_97 : decode cX6_of 97 = .ok (.aload_n 0, 1) := by decide +kernel
theorem dX6_of_98 : decode cX6_of 98 = .ok (.getfield 12, 3) := by decide +kernel
theorem dX6_of_101 : decode cX6_of 101 = .ok (.getfield 149, 3) := by decide +kernel
theorem dX6_of_104 : decode cX6_of 104 = .ok (.iload_n 1, 1) := by decide +kernel
theorem dX6_of_105 : decode cX6_of 105 = .ok (.iaload, 1) := by decide +kernel
theorem dX6_of_106 : decode cX6_of 106 = .ok (.ireturn, 1) := by decide +kernel
theorem dX6_of_107 : decode cX6_of 107 = .ok (.aload_n 0, 1) := by decide +kernel
theorem dX6_of_108 : decode cX6_of 108 = .ok (.iload_n 1, 1) := by decide +kernel
theorem dX6_of_109 : decode cX6_of 109 = .ok (.invokevirtual 152, 3) := by decide +kernel
theorem dX6_of_112 : decode cX6_of 112 = .ok (.ireturn, 1) := by decide +kernel
theorem dX6_of_113 : decode cX6_of 113 = .ok (.aload_n 0, 1) := by decide +kernel
theorem dX6_of_114 : decode cX6_of 114 = .ok (.iconst 1, 1) := by decide +kernel
theorem dX6_of_115 : decode cX6_of 115 = .ok (.iload_n 1, 1) := by decide +kernel
theorem dX6_of_116 : decode cX6_of 116 = .ok (.ishl, 1) := by decide +kernel
theorem dX6_of_117 : decode cX6_of 117 = .ok (.invokevirtual 155, 3) := by decide +kernel
theorem dX6_of_120 : decode cX6_of 120 = .ok (.ireturn, 1) := by decide +kernel
theorem dX6_of_121 : decode cX6_of 121 = .ok (.iconst (-1), 1) := by decide +kernel
theorem dX6_of_122 : decode cX6_of 122 = .ok (.ireturn, 1) := by decide +kernel
theorem dX6_made_0 : decode cX6_made 0 = .ok (.aload_n 0, 1) := by decide +kernel
theorem dX6_made_1 : decode cX6_made 1 = .ok (.iload_n 1, 1) := by decide +kernel
theorem dX6_made_2 : decode cX6_made 2 = .ok (.invokevirtual 84, 3) := by decide +kernel
theorem dX6_made_5 : decode cX6_made 5 = .ok (.ifCond .ne 5, 3) := by decide +kernel
theorem dX6_made_8 : decode cX6_made 8 = .ok (.iconst (-1), 1) := by decide +kernel
theorem dX6_made_9 : decode cX6_made 9 = .ok (.ireturn, 1) := by decide +kernel
theorem dX6_made_10 : decode cX6_made 10 = .ok (.aload_n 0, 1) := by decide +kernel
theorem dX6_made_11 : decode cX6_made 11 = .ok (.getfield 12, 3) := by decide +kernel
theorem dX6_made_14 : decode cX6_made 14 = .ok (.getfield 96, 3) := by decide +kernel
theorem dX6_made_17 : decode cX6_made 17 = .ok (.iload_n 1, 1) := by decide +kernel
theorem dX6_made_18 : decode cX6_made 18 = .ok (.baload, 1) := by decide +kernel
theorem dX6_made_19 : decode cX6_made 19 = .ok (.ifCond .eq 6, 3) := by decide +kernel
theorem dX6_made_22 : decode cX6_made 22 = .ok (.bipush (-2), 2) := by decide +kernel
theorem dX6_made_24 : decode cX6_made 24 = .ok (.ireturn, 1) := by decide +kernel
theorem dX6_made_25 : decode cX6_made 25 = .ok (.aload_n 0, 1) := by decide +kernel
theorem dX6_made_26 : decode cX6_made 26 = .ok (.getfield 12, 3) := by decide +kernel
theorem dX6_made_29 : decode cX6_made 29 = .ok (.getfield 96, 3) := by decide +kernel
theorem dX6_made_32 : decode cX6_made 32 = .ok (.iload_n 1, 1) := by decide +kernel
theorem dX6_made_33 : decode cX6_made 33 = .ok (.iconst 1, 1) := by decide +kernel
theorem dX6_made_34 : decode cX6_made 34 = .ok (.bastore, 1) := by decide +kernel
theorem dX6_made_35 : decode cX6_made 35 = .ok (.aload_n 0, 1) := by decide +kernel
theorem dX6_made_36 : decode cX6_made 36 = .ok (.iload_n 1, 1) := by decide +kernel
theorem dX6_made_37 : decode cX6_made 37 = .ok (.invokevirtual 158, 3) := by decide +kernel
theorem dX6_made_40 : decode cX6_made 40 = .ok (.istore_n 2, 1) := by decide +kernel
theorem dX6_made_41 : decode cX6_made 41 = .ok (.iconst 0, 1) := by decide +kernel
theorem dX6_made_42 : decode cX6_made 42 = .ok (.istore_n 3, 1) := by decide +kernel
theorem dX6_made_43 : decode cX6_made 43 = .ok (.iload_n 3, 1) := by decide +kernel
theorem dX6_made_44 : decode cX6_made 44 = .ok (.aload_n 0, 1) := by decide +kernel
theorem dX6_made_45 : decode cX6_made 45 = .ok (.getfield 12, 3) := by decide +kernel
theorem dX6_made_48 : decode cX6_made 48 = .ok (.getfield 161, 3) := by decide +kernel
theorem dX6_made_51 : decode cX6_made 51 = .ok (.if_icmp .ge 50, 3) := by decide +kernel
theorem dX6_made_54 : decode cX6_made 54 = .ok (.iload_n 2, 1) := by decide +kernel
theorem dX6_made_55 : decode cX6_made 55 = .ok (.iload_n 3, 1) := by decide +kernel
theorem dX6_made_56 : decode cX6_made 56 = .ok (.invokestatic 162, 3) := by decide +kernel
theorem dX6_made_59 : decode cX6_made 59 = .ok (.ifCond .eq 36, 3) := by decide +kernel
theorem dX6_made_62 : decode cX6_made 62 = .ok (.aload_n 0, 1) := by decide +kernel
theorem dX6_made_63 : decode cX6_made 63 = .ok (.getfield 12, 3) := by decide +kernel
theorem dX6_made_66 : decode cX6_made 66 = .ok (.getfield 149, 3) := by decide +kernel
theorem dX6_made_69 : decode cX6_made 69 = .ok (.iload_n 3, 1) := by decide +kernel
theorem dX6_made_70 : decode cX6_made 70 = .ok (.aload_n 0, 1) := by decide +kernel
theorem dX6_made_71 : decode cX6_made 71 = .ok (.getfield 12, 3) := by decide +kernel
theorem dX6_made_74 : decode cX6_made 74 = .ok (.getfield 149, 3) := by decide +kernel
theorem dX6_made_77 : decode cX6_made 77 = .ok (.iload_n 3, 1) := by decide +kernel
theorem dX6_made_78 : decode cX6_made 78 = .ok (.iaload, 1) := by decide +kernel
theorem dX6_made_79 : decode cX6_made 79 = .ok (.aload_n 0, 1) := by decide +kernel
theorem dX6_made_80 : decode cX6_made 80 = .ok (.getfield 113, 3) := by decide +kernel
theorem dX6_made_83 : decode cX6_made 83 = .ok (.aload_n 0, 1) := by decide +kernel
theorem dX6_made_84 : decode cX6_made 84 = .ok (.getfield 50, 3) := by decide +kernel
theorem dX6_made_87 : decode cX6_made 87 = .ok (.bipush 8, 2) := by decide +kernel
theorem dX6_made_89 : decode cX6_made 89 = .ok (.iaload, 1) := by decide +kernel
theorem dX6_made_90 : decode cX6_made 90 = .ok (.iadd, 1) := by decide +kernel
theorem dX6_made_91 : decode cX6_made 91 = .ok (.invokestatic 165, 3) := by decide +kernel
theorem dX6_made_94 : decode cX6_made 94 = .ok (.iastore, 1) := by decide +kernel
theorem dX6_made_95 : decode cX6_made 95 = .ok (.iinc 3 1, 3) := by decide +kernel
theorem dX6_made_98 : decode cX6_made 98 = .ok (.goto (-55), 3) := by decide +kernel
theorem dX6_made_101 : decode cX6_made 101 = .ok (.iload_n 2, 1) := by decide +kernel
theorem dX6_made_102 : decode cX6_made 102 = .ok (.invokestatic 171, 3) := by decide +kernel
theorem dX6_made_105 : decode cX6_made 105 = .ok (.ireturn, 1) := by decide +kernel
theorem dX6_day_0 : decode cX6_day 0 = .ok (.iload_n 1, 1) := by decide +kernel
theorem dX6_day_1 : decode cX6_day 1 = .ok (.aload_n 0, 1) := by decide +kernel
theorem dX6_day_2 : decode cX6_day 2 = .ok (.getfield 113, 3) := by decide +kernel
theorem dX6_day_5 : decode cX6_day 5 = .ok (.sipush 9999, 3) := by decide +kernel
theorem dX6_day_8 : decode cX6_day 8 = .ok (.invokestatic 76, 3) := by decide +kernel
theorem dX6_day_11 : decode cX6_day 11 = .ok (.ifCond .ne 5, 3) := by decide +kernel
theorem dX6_day_14 : decode cX6_day 14 = .ok (.iconst (-1), 1) := by decide +kernel
theorem dX6_day_15 : decode cX6_day 15 = .ok (.ireturn, 1) := by decide +kernel
theorem dX6_day_16 : decode cX6_day 16 = .ok (.aload_n 0, 1) := by decide +kernel
theorem dX6_day_17 : decode cX6_day 17 = .ok (.getfield 113, 3) := by decide +kernel
theorem dX6_day_20 : decode cX6_day 20 = .ok (.istore_n 2, 1) := by decide +kernel
theorem dX6_day_21 : decode cX6_day 21 = .ok (.aload_n 0, 1) := by decide +kernel
theorem dX6_day_22 : decode cX6_day 22 = .ok (.iload_n 1, 1) := by decide +kernel
theorem dX6_day_23 : decode cX6_day 23 = .ok (.putfield 113, 3) := by decide +kernel
theorem dX6_day_26 : decode cX6_day 26 = .ok (.iload_n 2, 1) := by decide +kernel
theorem dX6_day_27 : decode cX6_day 27 = .ok (.ireturn, 1) := by decide +kernel
theorem dX6_feed_0 : decode cX6_feed 0 = .ok (.aload_n 0, 1) := by decide +kernel
theorem dX6_feed_1 : decode cX6_feed 1 = .ok (.getfield 33, 3) := by decide +kernel
theorem dX6_feed_4 : decode cX6_feed 4 = .ok (.lload_n 1, 1) := by decide +kernel
theorem dX6_feed_5 : decode cX6_feed 5 = .ok (.invokevirtual 176, 3) := by decide +kernel
theorem dX6_feed_8 : decode cX6_feed 8 = .ok (.ireturn, 1) := by decide +kernel
theorem dX6_end_0 : decode cX6_end 0 = .ok (.iload_n 1, 1) := by decide +kernel
theorem dX6_end_1 : decode cX6_end 1 = .ok (.iconst 0, 1) := by decide +kernel
theorem dX6_end_2 : decode cX6_end 2 = .ok (.aload_n 0, 1) := by decide +kernel
theorem dX6_end_3 : decode cX6_end 3 = .ok (.getfield 33, 3) := by decide +kernel
theorem dX6_end_6 : decode cX6_end 6 = .ok (.getfield 180, 3) := by decide +kernel
theorem dX6_end_9 : decode cX6_end 9 = .ok (.invokestatic 76, 3) := by decide +kernel
theorem dX6_end_12 : decode cX6_end 12 = .ok (.ifCond .ne 5, 3) := by decide +kernel
theorem dX6_end_15 : decode cX6_end 15 = .ok (.iconst (-1), 1) := by decide +kernel
theorem dX6_end_16 : decode cX6_end 16 = .ok (.ireturn, 1) := by decide +kernel
theorem dX6_end_17 : decode cX6_end 17 = .ok (.aload_n 0, 1) := by decide +kernel
theorem dX6_end_18 : decode cX6_end 18 = .ok (.getfield 33, 3) := by decide +kernel
theorem dX6_end_21 : decode cX6_end 21 = .ok (.getfield 180, 3) := by decide +kernel
theorem dX6_end_24 : decode cX6_end 24 = .ok (.istore_n 2, 1) := by decide +kernel
theorem dX6_end_25 : decode cX6_end 25 = .ok (.aload_n 0, 1) := by decide +kernel
theorem dX6_end_26 : decode cX6_end 26 = .ok (.getfield 33, 3) := by decide +kernel
theorem dX6_end_29 : decode cX6_end 29 = .ok (.iload_n 1, 1) := by decide +kernel
theorem dX6_end_30 : decode cX6_end 30 = .ok (.putfield 180, 3) := by decide +kernel
theorem dX6_end_33 : decode cX6_end 33 = .ok (.iload_n 2, 1) := by decide +kernel
theorem dX6_end_34 : decode cX6_end 34 = .ok (.ireturn, 1) := by decide +kernel
theorem dX6_rules_0 : decode cX6_rules 0 = .ok (.getstatic 66, 3) := by decide +kernel
theorem dX6_rules_3 : decode cX6_rules 3 = .ok (.iconst 0, 1) := by decide +kernel
theorem dX6_rules_4 : decode cX6_rules 4 = .ok (.aload_n 0, 1) := by decide +kernel
theorem dX6_rules_5 : decode cX6_rules 5 = .ok (.getfield 54, 3) := by decide +kernel
theorem dX6_rules_8 : decode cX6_rules 8 = .ok (.iconst 0, 1) := by decide +kernel
theorem dX6_rules_9 : decode cX6_rules 9 = .ok (.bipush 10, 2) := by decide +kernel
theorem dX6_rules_11 : decode cX6_rules 11 = .ok (.invokestatic 69, 3) := by decide +kernel
theorem dX6_rules_14 : decode cX6_rules 14 = .ok (.aload_n 0, 1) := by decide +kernel
theorem dX6_rules_15 : decode cX6_rules 15 = .ok (.getfield 33, 3) := by decide +kernel
theorem dX6_rules_18 : decode cX6_rules 18 = .ok (.aload_n 0, 1) := by decide +kernel
theorem dX6_rules_19 : decode cX6_rules 19 = .ok (.getfield 54, 3) := by decide +kernel
theorem dX6_rules_22 : decode cX6_rules 22 = .ok (.invokevirtual 183, 3) := by decide +kernel
theorem dX6_rules_25 : decode cX6_rules 25 = .ok (.istore_n 1, 1) := by decide +kernel
theorem dX6_rules_26 : decode cX6_rules 26 = .ok (.aload_n 0, 1) := by decide +kernel
theorem dX6_rules_27 : decode cX6_rules 27 = .ok (.getfield 33, 3) := by decide +kernel
theorem dX6_rules_30 : decode cX6_rules 30 = .ok (.getfield 187, 3) := by decide +kernel
theorem dX6_rules_33 : decode cX6_rules 33 = .ok (.ifCond .ne 18, 3) := by decide +kernel
theorem dX6_rules_36 : decode cX6_rules 36 = .ok (.aload_n 0, 1) := by decide +kernel
theorem dX6_rules_37 : decode cX6_rules 37 = .ok (.getfield 54, 3) := by decide +kernel
theorem dX6_rules_40 : decode cX6_rules 40 = .ok (.iconst 0, 1) := by decide +kernel
theorem dX6_rules_41 : decode cX6_rules 41 = .ok (.aload_n 0, 1) := by decide +kernel
theorem dX6_rules_42 : decode cX6_rules 42 = .ok (.getfield 50, 3) := by decide +kernel
theorem dX6_rules_45 : decode cX6_rules 45 = .ok (.iconst 0, 1) := by decide +kernel
theorem dX6_rules_46 : decode cX6_rules 46 = .ok (.bipush 10, 2) := by decide +kernel
theorem dX6_rules_48 : decode cX6_rules 48 = .ok (.invokestatic 69, 3) := by decide +kernel
theorem dX6_rules_51 : decode cX6_rules 51 = .ok (.aload_n 0, 1) := by decide +kernel
theorem dX6_rules_52 : decode cX6_rules 52 = .ok (.getfield 33, 3) := by decide +kernel
theorem dX6_rules_55 : decode cX6_rules 55 = .ok (.iconst 0, 1) := by decide +kernel
theorem dX6_rules_56 : decode cX6_rules 56 = .ok (.putfield 180, 3) := by decide +kernel
theorem dX6_rules_59 : decode cX6_rules 59 = .ok (.iload_n 1, 1) := by decide +kernel
theorem dX6_rules_60 : decode cX6_rules 60 = .ok (.ireturn, 1) := by decide +kernel
theorem dX6_fault_0 : decode cX6_fault 0 = .ok (.aload_n 0, 1) := by decide +kernel
theorem dX6_fault_1 : decode cX6_fault 1 = .ok (.getfield 33, 3) := by decide +kernel
theorem dX6_fault_4 : decode cX6_fault 4 = .ok (.getfield 187, 3) := by decide +kernel
theorem dX6_fault_7 : decode cX6_fault 7 = .ok (.ireturn, 1) := by decide +kernel
theorem dX6_rule_0 : decode cX6_rule 0 = .ok (.iload_n 1, 1) := by decide +kernel
theorem dX6_rule_1 : decode cX6_rule 1 = .ok (.iconst 0, 1) := by decide +kernel
theorem dX6_rule_2 : decode cX6_rule 2 = .ok (.bipush 9, 2) := by decide +kernel
theorem dX6_rule_4 : decode cX6_rule 4 = .ok (.invokestatic 76, 3) := by decide +kernel
theorem dX6_rule_7 : decode cX6_rule 7 = .ok (.ifCond .eq 12, 3) := by decide +kernel
theorem dX6_rule_10 : decode cX6_rule 10 = .ok (.aload_n 0, 1) := by decide +kernel
theorem dX6_rule_11 : decode cX6_rule 11 = .ok (.getfield 50, 3) := by decide +kernel
theorem dX6_rule_14 : decode cX6_rule 14 = .ok (.iload_n 1, 1) := by decide +kernel
theorem dX6_rule_15 : decode cX6_rule 15 = .ok (.iaload, 1) := by decide +kernel
theorem dX6_rule_16 : decode cX6_rule 16 = .ok (.goto 4, 3) := by decide +kernel
theorem dX6_rule_19 : decode cX6_rule 19 = .ok (.iconst (-1), 1) := by decide +kernel
theorem dX6_rule_20 : decode cX6_rule 20 = .ok (.ireturn, 1) := by decide +kernel
theorem dX6_trust_0 : decode cX6_trust 0 = .ok (.aload_n 0, 1) := by decide +kernel
theorem dX6_trust_1 : decode cX6_trust 1 = .ok (.iload_n 1, 1) := by decide +kernel
theorem dX6_trust_2 : decode cX6_trust 2 = .ok (.invokevirtual 84, 3) := by decide +kernel
theorem dX6_trust_5 : decode cX6_trust 5 = .ok (.ifCond .ne 5, 3) := by decide +kernel
theorem dX6_trust_8 : decode cX6_trust 8 = .ok (.iconst (-1), 1) := by decide +kernel
theorem dX6_trust_9 : decode cX6_trust 9 = .ok (.ireturn, 1) := by decide +kernel
theorem dX6_trust_10 : decode cX6_trust 10 = .ok (.aload_n 0, 1) := by decide +kernel
theorem dX6_trust_11 : decode cX6_trust 11 = .ok (.invokevirtual 190, 3) := by decide +kernel
theorem dX6_trust_14 : decode cX6_trust 14 = .ok (.aload_n 0, 1) := by decide +kernel
theorem dX6_trust_15 : decode cX6_trust 15 = .ok (.getfield 40, 3) := by decide +kernel
theorem dX6_trust_18 : decode cX6_trust 18 = .ok (.iconst 1, 1) := by decide +kernel
theorem dX6_trust_19 : decode cX6_trust 19 = .ok (.iload_n 1, 1) := by decide +kernel
theorem dX6_trust_20 : decode cX6_trust 20 = .ok (.ishl, 1) := by decide +kernel
theorem dX6_trust_21 : decode cX6_trust 21 = .ok (.invokevirtual 193, 3) := by decide +kernel
theorem dX6_trust_24 : decode cX6_trust 24 = .ok (.ireturn, 1) := by decide +kernel
theorem dX6_heap_0 : decode cX6_heap 0 = .ok (.aload_n 0, 1) := by decide +kernel
theorem dX6_heap_1 : decode cX6_heap 1 = .ok (.iload_n 1, 1) := by decide +kernel
theorem dX6_heap_2 : decode cX6_heap 2 = .ok (.invokevirtual 196, 3) := by decide +kernel
theorem dX6_heap_5 : decode cX6_heap 5 = .ok (.ifCond .ne 5, 3) := by decide +kernel
theorem dX6_heap_8 : decode cX6_heap 8 = .ok (.iconst (-1), 1) := by decide +kernel
theorem dX6_heap_9 : decode cX6_heap 9 = .ok (.ireturn, 1) := by decide +kernel
theorem dX6_heap_10 : decode cX6_heap 10 = .ok (.aload_n 0, 1) := by decide +kernel
theorem dX6_heap_11 : decode cX6_heap 11 = .ok (.invokevirtual 190, 3) := by decide +kernel
theorem dX6_heap_14 : decode cX6_heap 14 = .ok (.aload_n 0, 1) := by decide +kernel
theorem dX6_heap_15 : decode cX6_heap 15 = .ok (.getfield 40, 3) := by decide +kernel
theorem dX6_heap_18 : decode cX6_heap 18 = .ok (.iload_n 1, 1) := by decide +kernel
theorem dX6_heap_19 : decode cX6_heap 19 = .ok (.invokevirtual 193, 3) := by decide +kernel
theorem dX6_heap_22 : decode cX6_heap 22 = .ok (.ireturn, 1) := by decide +kernel
theorem dX6_cut_0 : decode cX6_cut 0 = .ok (.aload_n 0, 1) := by decide +kernel
theorem dX6_cut_1 : decode cX6_cut 1 = .ok (.iload_n 1, 1) := by decide +kernel
theorem dX6_cut_2 : decode cX6_cut 2 = .ok (.invokevirtual 196, 3) := by decide +kernel
theorem dX6_cut_5 : decode cX6_cut 5 = .ok (.ifCond .eq 16, 3) := by decide +kernel
theorem dX6_cut_8 : decode cX6_cut 8 = .ok (.iload_n 1, 1) := by decide +kernel
theorem dX6_cut_9 : decode cX6_cut 9 = .ok (.ifCond .eq 12, 3) := by decide +kernel
theorem dX6_cut_12 : decode cX6_cut 12 = .ok (.iload_n 2, 1) := by decide +kernel
theorem dX6_cut_13 : decode cX6_cut 13 = .ok (.iconst 0, 1) := by decide +kernel
theorem dX6_cut_14 : decode cX6_cut 14 = .ok (.iconst 2, 1) := by decide +kernel
theorem dX6_cut_15 : decode cX6_cut 15 = .ok (.invokestatic 76, 3) := by decide +kernel
theorem dX6_cut_18 : decode cX6_cut 18 = .ok (.ifCond .ne 5, 3) := by decide +kernel
theorem dX6_cut_21 : decode cX6_cut 21 = .ok (.iconst (-1), 1) := by decide +kernel
theorem dX6_cut_22 : decode cX6_cut 22 = .ok (.ireturn, 1) := by decide +kernel
theorem dX6_cut_23 : decode cX6_cut 23 = .ok (.aload_n 0, 1) := by decide +kernel
theorem dX6_cut_24 : decode cX6_cut 24 = .ok (.invokevirtual 190, 3) := by decide +kernel
theorem dX6_cut_27 : decode cX6_cut 27 = .ok (.aload_n 0, 1) := by decide +kernel
theorem dX6_cut_28 : decode cX6_cut 28 = .ok (.getfield 40, 3) := by decide +kernel
theorem dX6_cut_31 : decode cX6_cut 31 = .ok (.iload_n 1, 1) := by decide +kernel
theorem dX6_cut_32 : decode cX6_cut 32 = .ok (.invokevirtual 193, 3) := by decide +kernel
theorem dX6_cut_35 : decode cX6_cut 35 = .ok (.pop, 1) := by decide +kernel
theorem dX6_cut_36 : decode cX6_cut 36 = .ok (.aload_n 0, 1) := by decide +kernel
theorem dX6_cut_37 : decode cX6_cut 37 = .ok (.getfield 40, 3) := by decide +kernel
theorem dX6_cut_40 : decode cX6_cut 40 = .ok (.getfield 199, 3) := by decide +kernel
theorem dX6_cut_43 : decode cX6_cut 43 = .ok (.sipush 4095, 3) := by decide +kernel
theorem dX6_cut_46 : decode cX6_cut 46 = .ok (.iand, 1) := by decide +kernel
theorem dX6_cut_47 : decode cX6_cut 47 = .ok (.istore_n 3, 1) := by decide +kernel
theorem dX6_cut_48 : decode cX6_cut 48 = .ok (.iload_n 2, 1) := by decide +kernel
theorem dX6_cut_49 : decode cX6_cut 49 = .ok (.lookupswitch 35 #[(0, 27), (1, 29)], 27) := by decide +kernel
theorem dX6_cut_76 : decode cX6_cut 76 = .ok (.iload_n 3, 1) := by decide +kernel
theorem dX6_cut_77 : decode cX6_cut 77 = .ok (.ireturn, 1) := by decide +kernel
theorem dX6_cut_78 : decode cX6_cut 78 = .ok (.aload_n 0, 1) := by decide +kernel
theorem dX6_cut_79 : decode cX6_cut 79 = .ok (.iload_n 3, 1) := by decide +kernel
theorem dX6_cut_80 : decode cX6_cut 80 = .ok (.invokevirtual 202, 3) := by decide +kernel
theorem dX6_cut_83 : decode cX6_cut 83 = .ok (.ireturn, 1) := by decide +kernel
theorem dX6_cut_84 : decode cX6_cut 84 = .ok (.aload_n 0, 1) := by decide +kernel
theorem dX6_cut_85 : decode cX6_cut 85 = .ok (.iload_n 3, 1) := by decide +kernel
theorem dX6_cut_86 : decode cX6_cut 86 = .ok (.invokevirtual 205, 3) := by decide +kernel
theorem dX6_cut_89 : decode cX6_cut 89 = .ok (.ireturn, 1) := by decide +kernel
theorem dX6_low_0 : decode cX6_low 0 = .ok (.iload_n 1, 1) := by decide +kernel
theorem dX6_low_1 : decode cX6_low 1 = .ok (.iconst 0, 1) := by decide +kernel
theorem dX6_low_2 : decode cX6_low 2 = .ok (.iconst 1, 1) := by decide +kernel
theorem dX6_low_3 : decode cX6_low 3 = .ok (.invokestatic 76, 3) := by decide +kernel
theorem dX6_low_6 : decode cX6_low 6 = .ok (.ifCond .ne 5, 3) := by decide +kernel
theorem dX6_low_9 : decode cX6_low 9 = .ok (.iconst (-1), 1) := by decide +kernel
theorem dX6_low_10 : decode cX6_low 10 = .ok (.ireturn, 1) := by decide +kernel
theorem dX6_low_11 : decode cX6_low 11 = .ok (.aload_n 0, 1) := by decide +kernel
theorem dX6_low_12 : decode cX6_low 12 = .ok (.invokevirtual 190, 3) := by decide +kernel
theorem dX6_low_15 : decode cX6_low 15 = .ok (.bipush (-4), 2) := by decide +kernel
theorem dX6_low_17 : decode cX6_low 17 = .ok (.istore_n 2, 1) := by decide +kernel
theorem dX6_low_18 : decode cX6_low 18 = .ok (.iconst 0, 1) := by decide +kernel
theorem dX6_low_19 : decode cX6_low 19 = .ok (.istore_n 3, 1) := by decide +kernel
theorem dX6_low_20 : decode cX6_low 20 = .ok (.iconst 0, 1) := by decide +kernel
theorem dX6_low_21 : decode cX6_low 21 = .ok (.istore 4, 2) := by decide +kernel
theorem dX6_low_23 : decode cX6_low 23 = .ok (.iload 4, 2) := by decide +kernel
theorem dX6_low_25 : decode cX6_low 25 = .ok (.aload_n 0, 1) := by decide +kernel
theorem dX6_low_26 : decode cX6_low 26 = .ok (.getfield 12, 3) := by decide +kernel
theorem dX6_low_29 : decode cX6_low 29 = .ok (.getfield 161, 3) := by decide +kernel
theorem dX6_low_32 : decode cX6_low 32 = .ok (.if_icmp .ge 52, 3) := by decide +kernel
theorem dX6_low_35 : decode cX6_low 35 = .ok (.aload_n 0, 1) := by decide +kernel
theorem dX6_low_36 : decode cX6_low 36 = .ok (.iload 4, 2) := by decide +kernel
theorem dX6_low_38 : decode cX6_low 38 = .ok (.invokevirtual 208, 3) := by decide +kernel
theorem dX6_low_41 : decode cX6_low 41 = .ok (.ifCond .ne 6, 3) := by decide +kernel
theorem dX6_low_44 : decode cX6_low 44 = .ok (.goto 34, 3) := by decide +kernel
theorem dX6_low_47 : decode cX6_low 47 = .ok (.aload_n 0, 1) := by decide +kernel
theorem dX6_low_48 : decode cX6_low 48 = .ok (.getfield 40, 3) := by decide +kernel
theorem dX6_low_51 : decode cX6_low 51 = .ok (.iconst 1, 1) := by decide +kernel
theorem dX6_low_52 : decode cX6_low 52 = .ok (.iload 4, 2) := by decide +kernel
theorem dX6_low_54 : decode cX6_low 54 = .ok (.ishl, 1) := by decide +kernel
theorem dX6_low_55 : decode cX6_low 55 = .ok (.invokevirtual 193, 3) := by decide +kernel
theorem dX6_low_58 : decode cX6_low 58 = .ok (.istore 5, 2) := by decide +kernel
theorem dX6_low_60 : decode cX6_low 60 = .ok (.iload_n 2, 1) := by decide +kernel
theorem dX6_low_61 : decode cX6_low 61 = .ok (.bipush (-4), 2) := by decide +kernel
theorem dX6_low_63 : decode cX6_low 63 = .ok (.if_icmp .eq 9, 3) := by decide +kernel
theorem dX6_low_66 : decode cX6_low 66 = .ok (.iload 5, 2) := by decide +kernel
theorem dX6_low_68 : decode cX6_low 68 = .ok (.iload_n 3, 1) := by decide +kernel
theorem dX6_low_69 : decode cX6_low 69 = .ok (.if_icmp .ge 9, 3) := by decide +kernel
theorem dX6_low_72 : decode cX6_low 72 = .ok (.iload 4, 2) := by decide +kernel
theorem dX6_low_74 : decode cX6_low 74 = .ok (.istore_n 2, 1) := by decide +kernel
theorem dX6_low_75 : decode cX6_low 75 = .ok (.iload 5, 2) := by decide +kernel
theorem dX6_low_77 : decode cX6_low 77 = .ok (.istore_n 3, 1) := by decide +kernel
theorem dX6_low_78 : decode cX6_low 78 = .ok (.iinc 4 1, 3) := by decide +kernel
theorem dX6_low_81 : decode cX6_low 81 = .ok (.goto (-58), 3) := by decide +kernel
theorem dX6_low_84 : decode cX6_low 84 = .ok (.iload_n 1, 1) := by decide +kernel
theorem dX6_low_85 : decode cX6_low 85 = .ok (.ifCond .eq 9, 3) := by decide +kernel
theorem dX6_low_88 : decode cX6_low 88 = .ok (.iload_n 2, 1) := by decide +kernel
theorem dX6_low_89 : decode cX6_low 89 = .ok (.bipush (-4), 2) := by decide +kernel
theorem dX6_low_91 : decode cX6_low 91 = .ok (.if_icmp .ne 7, 3) := by decide +kernel
theorem dX6_low_94 : decode cX6_low 94 = .ok (.iload_n 2, 1) := by decide +kernel
theorem dX6_low_95 : decode cX6_low 95 = .ok (.goto 4, 3) := by decide +kernel
theorem dX6_low_98 : decode cX6_low 98 = .ok (.iload_n 3, 1) := by decide +kernel
theorem dX6_low_99 : decode cX6_low 99 = .ok (.ireturn, 1) := by decide +kernel
theorem dX6_twins_0 : decode cX6_twins 0 = .ok (.iload_n 1, 1) := by decide +kernel
theorem dX6_twins_1 : decode cX6_twins 1 = .ok (.iconst 0, 1) := by decide +kernel
theorem dX6_twins_2 : decode cX6_twins 2 = .ok (.iconst 1, 1) := by decide +kernel
theorem dX6_twins_3 : decode cX6_twins 3 = .ok (.invokestatic 76, 3) := by decide +kernel
theorem dX6_twins_6 : decode cX6_twins 6 = .ok (.ifCond .ne 5, 3) := by decide +kernel
theorem dX6_twins_9 : decode cX6_twins 9 = .ok (.iconst (-1), 1) := by decide +kernel
theorem dX6_twins_10 : decode cX6_twins 10 = .ok (.ireturn, 1) := by decide +kernel
theorem dX6_twins_11 : decode cX6_twins 11 = .ok (.aload_n 0, 1) := by decide +kernel
theorem dX6_twins_12 : decode cX6_twins 12 = .ok (.invokevirtual 211, 3) := by decide +kernel
theorem dX6_twins_15 : decode cX6_twins 15 = .ok (.bipush (-4), 2) := by decide +kernel
theorem dX6_twins_17 : decode cX6_twins 17 = .ok (.istore_n 2, 1) := by decide +kernel
theorem dX6_twins_18 : decode cX6_twins 18 = .ok (.iconst 0, 1) := by decide +kernel
theorem dX6_twins_19 : decode cX6_twins 19 = .ok (.istore_n 3, 1) := by decide +kernel
theorem dX6_twins_20 : decode cX6_twins 20 = .ok (.iconst 0, 1) := by decide +kernel
theorem dX6_twins_21 : decode cX6_twins 21 = .ok (.istore 4, 2) := by decide +kernel
theorem dX6_twins_23 : decode cX6_twins 23 = .ok (.iload 4, 2) := by decide +kernel
theorem dX6_twins_25 : decode cX6_twins 25 = .ok (.aload_n 0, 1) := by decide +kernel
theorem dX6_twins_26 : decode cX6_twins 26 = .ok (.getfield 12, 3) := by decide +kernel
theorem dX6_twins_29 : decode cX6_twins 29 = .ok (.getfield 161, 3) := by decide +kernel
theorem dX6_twins_32 : decode cX6_twins 32 = .ok (.if_icmp .ge 106, 3) := by decide +kernel
theorem dX6_twins_35 : decode cX6_twins 35 = .ok (.iload 4, 2) := by decide +kernel
theorem dX6_twins_37 : decode cX6_twins 37 = .ok (.iconst 1, 1) := by decide +kernel
theorem dX6_twins_38 : decode cX6_twins 38 = .ok (.iadd, 1) := by decide +kernel
theorem dX6_twins_39 : decode cX6_twins 39 = .ok (.istore 5, 2) := by decide +kernel
theorem dX6_twins_41 : decode cX6_twins 41 = .ok (.iload 5, 2) := by decide +kernel
theorem dX6_twins_43 : decode cX6_twins 43 = .ok (.aload_n 0, 1) := by decide +kernel
theorem dX6_twins_44 : decode cX6_twins 44 = .ok (.getfield 12, 3) := by decide +kernel
theorem dX6_twins_47 : decode cX6_twins 47 = .ok (.getfield 161, 3) := by decide +kernel
theorem dX6_twins_50 : decode cX6_twins 50 = .ok (.if_icmp .ge 82, 3) := by decide +kernel
theorem dX6_twins_53 : decode cX6_twins 53 = .ok (.aload_n 0, 1) := by decide +kernel
theorem dX6_twins_54 : decode cX6_twins 54 = .ok (.iload 4, 2) := by decide +kernel
theorem dX6_twins_56 : decode cX6_twins 56 = .ok (.invokevirtual 208, 3) := by decide +kernel
theorem dX6_twins_59 : decode cX6_twins 59 = .ok (.ifCond .eq 67, 3) := by decide +kernel
theorem dX6_twins_62 : decode cX6_twins 62 = .ok (.aload_n 0, 1) := by decide +kernel
theorem dX6_twins_63 : decode cX6_twins 63 = .ok (.iload 5, 2) := by decide +kernel
theorem dX6_twins_65 : decode cX6_twins 65 = .ok (.invokevirtual 208, 3) := by decide +kernel
theorem dX6_twins_68 : decode cX6_twins 68 = .ok (.ifCond .ne 6, 3) := by decide +kernel
theorem dX6_twins_71 : decode cX6_twins 71 = .ok (.goto 55, 3) := by decide +kernel
theorem dX6_twins_74 : decode cX6_twins 74 = .ok (.aload_n 0, 1) := by decide +kernel
theorem dX6_twins_75 : decode cX6_twins 75 = .ok (.getfield 63, 3) := by decide +kernel
theorem dX6_twins_78 : decode cX6_twins 78 = .ok (.iload 4, 2) := by decide +kernel
theorem dX6_twins_80 : decode cX6_twins 80 = .ok (.iaload, 1) := by decide +kernel
theorem dX6_twins_81 : decode cX6_twins 81 = .ok (.aload_n 0, 1) := by decide +kernel
theorem dX6_twins_82 : decode cX6_twins 82 = .ok (.getfield 63, 3) := by decide +kernel
theorem dX6_twins_85 : decode cX6_twins 85 = .ok (.iload 5, 2) := by decide +kernel
theorem dX6_twins_87 : decode cX6_twins 87 = .ok (.iaload, 1) := by decide +kernel
theorem dX6_twins_88 : decode cX6_twins 88 = .ok (.iadd, 1) := by decide +kernel
theorem dX6_twins_89 : decode cX6_twins 89 = .ok (.aload_n 0, 1) := by decide +kernel
theorem dX6_twins_90 : decode cX6_twins 90 = .ok (.getfield 40, 3) := by decide +kernel
theorem dX6_twins_93 : decode cX6_twins 93 = .ok (.iconst 1, 1) := by decide +kernel
theorem dX6_twins_94 : decode cX6_twins 94 = .ok (.iload 4, 2) := by decide +kernel
theorem dX6_twins_96 : decode cX6_twins 96 = .ok (.ishl, 1) := by decide +kernel
theorem dX6_twins_97 : decode cX6_twins 97 = .ok (.iconst 1, 1) := by decide +kernel
theorem dX6_twins_98 : decode cX6_twins 98 = .ok (.iload 5, 2) := by decide +kernel
theorem dX6_twins_100 : decode cX6_twins 100 = .ok (.ishl, 1) := by decide +kernel
theorem dX6_twins_101 : decode cX6_twins 101 = .ok (.ior, 1) := by decide +kernel
theorem dX6_twins_102 : decode cX6_twins 102 = .ok (.invokevirtual 193, 3) := by decide +kernel
theorem dX6_twins_105 : decode cX6_twins 105 = .ok (.isub, 1) := by decide +kernel
theorem dX6_twins_106 : decode cX6_twins 106 = .ok (.istore 6, 2) := by decide +kernel
theorem dX6_twins_108 : decode cX6_twins 108 = .ok (.iload 6, 2) := by decide +kernel
theorem dX6_twins_110 : decode cX6_twins 110 = .ok (.iload_n 3, 1) := by decide +kernel
theorem dX6_twins_111 : decode cX6_twins 111 = .ok (.if_icmp .le 15, 3) := by decide +kernel
theorem dX6_twins_114 : decode cX6_twins 114 = .ok (.bipush 16, 2) := by decide +kernel
theorem dX6_twins_116 : decode cX6_twins 116 = .ok (.iload 4, 2) := by decide +kernel
theorem dX6_twins_118 : decode cX6_twins 118 = .ok (.imul, 1) := by decide +kernel
theorem dX6_twins_119 : decode cX6_twins 119 = .ok (.iload 5, 2) := by decide +kernel
theorem dX6_twins_121 : decode cX6_twins 121 = .ok (.iadd, 1) := by decide +kernel
theorem dX6_twins_122 : decode cX6_twins 122 = .ok (.istore_n 2, 1) := by decide +kernel
theorem dX6_twins_123 : decode cX6_twins 123 = .ok (.iload 6, 2) := by decide +kernel
theorem dX6_twins_125 : decode cX6_twins 125 = .ok (.istore_n 3, 1) := by decide +kernel
theorem dX6_twins_126 : decode cX6_twins 126 = .ok (.iinc 5 1, 3) := by decide +kernel
theorem dX6_twins_129 : decode cX6_twins 129 = .ok (.goto (-88), 3) := by decide +kernel
theorem dX6_twins_132 : decode cX6_twins 132 = .ok (.iinc 4 1, 3) := by decide +kernel
theorem dX6_twins_135 : decode cX6_twins 135 = .ok (.goto (-112), 3) := by decide +kernel
theorem dX6_twins_138 : decode cX6_twins 138 = .ok (.iload_n 1, 1) := by decide +kernel
theorem dX6_twins_139 : decode cX6_twins 139 = .ok (.ifCond .eq 9, 3) := by decide +kernel
theorem dX6_twins_142 : decode cX6_twins 142 = .ok (.iload_n 2, 1) := by decide +kernel
theorem dX6_twins_143 : decode cX6_twins 143 = .ok (.bipush (-4), 2) := by decide +kernel
theorem dX6_twins_145 : decode cX6_twins 145 = .ok (.if_icmp .ne 7, 3) := by decide +kernel
theorem dX6_twins_148 : decode cX6_twins 148 = .ok (.iload_n 2, 1) := by decide +kernel
theorem dX6_twins_149 : decode cX6_twins 149 = .ok (.goto 4, 3) := by decide +kernel
theorem dX6_twins_152 : decode cX6_twins 152 = .ok (.iload_n 3, 1) := by decide +kernel
theorem dX6_twins_153 : decode cX6_twins 153 = .ok (.ireturn, 1) := by decide +kernel
theorem dX6_word_0 : decode cX6_word 0 = .ok (.aload_n 0, 1) := by decide +kernel
theorem dX6_word_1 : decode cX6_word 1 = .ok (.iload_n 1, 1) := by decide +kernel
theorem dX6_word_2 : decode cX6_word 2 = .ok (.iload_n 2, 1) := by decide +kernel
theorem dX6_word_3 : decode cX6_word 3 = .ok (.iload_n 3, 1) := by decide +kernel
theorem dX6_word_4 : decode cX6_word 4 = .ok (.iload 4, 2) := by decide +kernel
theorem dX6_word_6 : decode cX6_word 6 = .ok (.iconst 0, 1) := by decide +kernel
theorem dX6_word_7 : decode cX6_word 7 = .ok (.invokevirtual 214, 3) := by decide +kernel
theorem dX6_word_10 : decode cX6_word 10 = .ok (.istore 5, 2) := by decide +kernel
theorem dX6_word_12 : decode cX6_word 12 = .ok (.iload 5, 2) := by decide +kernel
theorem dX6_word_14 : decode cX6_word 14 = .ok (.ifCond .eq 8, 3) := by decide +kernel
theorem dX6_word_17 : decode cX6_word 17 = .ok (.iload 5, 2) := by decide +kernel
theorem dX6_word_19 : decode cX6_word 19 = .ok (.goto 19, 3) := by decide +kernel
theorem dX6_word_22 : decode cX6_word 22 = .ok (.aload_n 0, 1) := by decide +kernel
theorem dX6_word_23 : decode cX6_word 23 = .ok (.getfield 26, 3) := by decide +kernel
theorem dX6_word_26 : decode cX6_word 26 = .ok (.iload_n 1, 1) := by decide +kernel
theorem dX6_word_27 : decode cX6_word 27 = .ok (.iload_n 2, 1) := by decide +kernel
theorem dX6_word_28 : decode cX6_word 28 = .ok (.iload_n 3, 1) := by decide +kernel
theorem dX6_word_29 : decode cX6_word 29 = .ok (.iload 4, 2) := by decide +kernel
theorem dX6_word_31 : decode cX6_word 31 = .ok (.aload_n 0, 1) := by decide +kernel
theorem dX6_word_32 : decode cX6_word 32 = .ok (.getfield 113, 3) := by decide +kernel
theorem dX6_word_35 : decode cX6_word 35 = .ok (.invokevirtual 217, 3) := by decide +kernel
theorem dX6_word_38 : decode cX6_word 38 = .ok (.ireturn, 1) := by decide +kernel
theorem dX6_wordOf_0 : decode cX6_wordOf 0 = .ok (.aload_n 0, 1) := by decide +kernel
theorem dX6_wordOf_1 : decode cX6_wordOf 1 = .ok (.iload_n 1, 1) := by decide +kernel
theorem dX6_wordOf_2 : decode cX6_wordOf 2 = .ok (.invokevirtual 218, 3) := by decide +kernel
theorem dX6_wordOf_5 : decode cX6_wordOf 5 = .ok (.ifCond .ne 5, 3) := by decide +kernel
theorem dX6_wordOf_8 : decode cX6_wordOf 8 = .ok (.iconst (-1), 1) := by decide +kernel
theorem dX6_wordOf_9 : decode cX6_wordOf 9 = .ok (.ireturn, 1) := by decide +kernel
theorem dX6_wordOf_10 : decode cX6_wordOf 10 = .ok (.iload_n 2, 1) := by decide +kernel
theorem dX6_wordOf_11 : decode cX6_wordOf 11 = .ok (.tableswitch 99 0 5 #[37, 47, 57, 67, 77, 87], 37) := by decide +kernel
theorem dX6_wordOf_48 : decode cX6_wordOf 48 = .ok (.aload_n 0, 1) := by decide +kernel
theorem dX6_wordOf_49 : decode cX6_wordOf 49 = .ok (.getfield 26, 3) := by decide +kernel
theorem dX6_wordOf_52 : decode cX6_wordOf 52 = .ok (.getfield 221, 3) := by decide +kernel
theorem dX6_wordOf_55 : decode cX6_wordOf 55 = .ok (.iload_n 1, 1) := by decide +kernel
theorem dX6_wordOf_56 : decode cX6_wordOf 56 = .ok (.iaload, 1) := by decide +kernel
theorem dX6_wordOf_57 : decode cX6_wordOf 57 = .ok (.ireturn, 1) := by decide +kernel
theorem dX6_wordOf_58 : decode cX6_wordOf 58 = .ok (.aload_n 0, 1) := by decide +kernel
theorem dX6_wordOf_59 : decode cX6_wordOf 59 = .ok (.getfield 26, 3) := by decide +kernel
theorem dX6_wordOf_62 : decode cX6_wordOf 62 = .ok (.getfield 224, 3) := by decide +kernel
theorem dX6_wordOf_65 : decode cX6_wordOf 65 = .ok (.iload_n 1, 1) := by decide +kernel
theorem dX6_wordOf_66 : decode cX6_wordOf 66 = .ok (.iaload, 1) := by decide +kernel
theorem dX6_wordOf_67 : decode cX6_wordOf 67 = .ok (.ireturn, 1) := by decide +kernel
theorem dX6_wordOf_68 : decode cX6_wordOf 68 = .ok (.aload_n 0, 1) := by decide +kernel
theorem dX6_wordOf_69 : decode cX6_wordOf 69 = .ok (.getfield 26, 3) := by decide +kernel
theorem dX6_wordOf_72 : decode cX6_wordOf 72 = .ok (.getfield 227, 3) := by decide +kernel
theorem dX6_wordOf_75 : decode cX6_wordOf 75 = .ok (.iload_n 1, 1) := by decide +kernel
theorem dX6_wordOf_76 : decode cX6_wordOf 76 = .ok (.iaload, 1) := by decide +kernel
theorem dX6_wordOf_77 : decode cX6_wordOf 77 = .ok (.ireturn, 1) := by decide +kernel
theorem dX6_wordOf_78 : decode cX6_wordOf 78 = .ok (.aload_n 0, 1) := by decide +kernel
theorem dX6_wordOf_79 : decode cX6_wordOf 79 = .ok (.getfield 26, 3) := by decide +kernel
theorem dX6_wordOf_82 : decode cX6_wordOf 82 = .ok (.getfield 230, 3) := by decide +kernel
theorem dX6_wordOf_85 : decode cX6_wordOf 85 = .ok (.iload_n 1, 1) := by decide +kernel
theorem dX6_wordOf_86 : decode cX6_wordOf 86 = .ok (.iaload, 1) := by decide +kernel
theorem dX6_wordOf_87 : decode cX6_wordOf 87 = .ok (.ireturn, 1) := by decide +kernel
theorem dX6_wordOf_88 : decode cX6_wordOf 88 = .ok (.aload_n 0, 1) := by decide +kernel
theorem dX6_wordOf_89 : decode cX6_wordOf 89 = .ok (.getfield 26, 3) := by decide +kernel
theorem dX6_wordOf_92 : decode cX6_wordOf 92 = .ok (.getfield 233, 3) := by decide +kernel
theorem dX6_wordOf_95 : decode cX6_wordOf 95 = .ok (.iload_n 1, 1) := by decide +kernel
theorem dX6_wordOf_96 : decode cX6_wordOf 96 = .ok (.iaload, 1) := by decide +kernel
theorem dX6_wordOf_97 : decode cX6_wordOf 97 = .ok (.ireturn, 1) := by decide +kernel
theorem dX6_wordOf_98 : decode cX6_wordOf 98 = .ok (.aload_n 0, 1) := by decide +kernel
theorem dX6_wordOf_99 : decode cX6_wordOf 99 = .ok (.getfield 26, 3) := by decide +kernel
theorem dX6_wordOf_102 : decode cX6_wordOf 102 = .ok (.iload_n 1, 1) := by decide +kernel
theorem dX6_wordOf_103 : decode cX6_wordOf 103 = .ok (.invokevirtual 234, 3) := by decide +kernel
theorem dX6_wordOf_106 : decode cX6_wordOf 106 = .ok (.invokestatic 92, 3) := by decide +kernel
theorem dX6_wordOf_109 : decode cX6_wordOf 109 = .ok (.ireturn, 1) := by decide +kernel
theorem dX6_wordOf_110 : decode cX6_wordOf 110 = .ok (.iconst (-1), 1) := by decide +kernel
theorem dX6_wordOf_111 : decode cX6_wordOf 111 = .ok (.ireturn, 1) := by decide +kernel
theorem dX6_weight_0 : decode cX6_weight 0 = .ok (.aload_n 0, 1) := by decide +kernel
theorem dX6_weight_1 : decode cX6_weight 1 = .ok (.iload_n 1, 1) := by decide +kernel
theorem dX6_weight_2 : decode cX6_weight 2 = .ok (.iload_n 2, 1) := by decide +kernel
theorem dX6_weight_3 : decode cX6_weight 3 = .ok (.invokevirtual 105, 3) := by decide +kernel
theorem dX6_weight_6 : decode cX6_weight 6 = .ok (.ifCond .ne 5, 3) := by decide +kernel
theorem dX6_weight_9 : decode cX6_weight 9 = .ok (.iconst (-1), 1) := by decide +kernel
theorem dX6_weight_10 : decode cX6_weight 10 = .ok (.ireturn, 1) := by decide +kernel
theorem dX6_weight_11 : decode cX6_weight 11 = .ok (.aload_n 0, 1) := by decide +kernel
theorem dX6_weight_12 : decode cX6_weight 12 = .ok (.iload_n 1, 1) := by decide +kernel
theorem dX6_weight_13 : decode cX6_weight 13 = .ok (.invokevirtual 237, 3) := by decide +kernel
theorem dX6_weight_16 : decode cX6_weight 16 = .ok (.iload_n 2, 1) := by decide +kernel
theorem dX6_weight_17 : decode cX6_weight 17 = .ok (.invokestatic 162, 3) := by decide +kernel
theorem dX6_weight_20 : decode cX6_weight 20 = .ok (.ifCond .ne 6, 3) := by decide +kernel
theorem dX6_weight_23 : decode cX6_weight 23 = .ok (.bipush (-4), 2) := by decide +kernel
theorem dX6_weight_25 : decode cX6_weight 25 = .ok (.ireturn, 1) := by decide +kernel
theorem dX6_weight_26 : decode cX6_weight 26 = .ok (.aload_n 0, 1) := by decide +kernel
theorem dX6_weight_27 : decode cX6_weight 27 = .ok (.iload_n 1, 1) := by decide +kernel
theorem dX6_weight_28 : decode cX6_weight 28 = .ok (.invokevirtual 240, 3) := by decide +kernel
theorem dX6_weight_31 : decode cX6_weight 31 = .ok (.pop, 1) := by decide +kernel
theorem dX6_weight_32 : decode cX6_weight 32 = .ok (.aload_n 0, 1) := by decide +kernel
theorem dX6_weight_33 : decode cX6_weight 33 = .ok (.getfield 57, 3) := by decide +kernel
theorem dX6_weight_36 : decode cX6_weight 36 = .ok (.iload_n 2, 1) := by decide +kernel
theorem dX6_weight_37 : decode cX6_weight 37 = .ok (.iaload, 1) := by decide +kernel
theorem dX6_weight_38 : decode cX6_weight 38 = .ok (.ireturn, 1) := by decide +kernel
theorem dX6_sayers_0 : decode cX6_sayers 0 = .ok (.aload_n 0, 1) := by decide +kernel
theorem dX6_sayers_1 : decode cX6_sayers 1 = .ok (.iload_n 1, 1) := by decide +kernel
theorem dX6_sayers_2 : decode cX6_sayers 2 = .ok (.invokevirtual 84, 3) := by decide +kernel
theorem dX6_sayers_5 : decode cX6_sayers 5 = .ok (.ifCond .eq 11, 3) := by decide +kernel
theorem dX6_sayers_8 : decode cX6_sayers 8 = .ok (.aload_n 0, 1) := by decide +kernel
theorem dX6_sayers_9 : decode cX6_sayers 9 = .ok (.iload_n 1, 1) := by decide +kernel
theorem dX6_sayers_10 : decode cX6_sayers 10 = .ok (.invokevirtual 237, 3) := by decide +kernel
theorem dX6_sayers_13 : decode cX6_sayers 13 = .ok (.goto 4, 3) := by decide +kernel
theorem dX6_sayers_16 : decode cX6_sayers 16 = .ok (.iconst (-1), 1) := by decide +kernel
theorem dX6_sayers_17 : decode cX6_sayers 17 = .ok (.ireturn, 1) := by decide +kernel
theorem dX6_mark_0 : decode cX6_mark 0 = .ok (.aload_n 0, 1) := by decide +kernel
theorem dX6_mark_1 : decode cX6_mark 1 = .ok (.iload_n 1, 1) := by decide +kernel
theorem dX6_mark_2 : decode cX6_mark 2 = .ok (.invokevirtual 84, 3) := by decide +kernel
theorem dX6_mark_5 : decode cX6_mark 5 = .ok (.ifCond .eq 12, 3) := by decide +kernel
theorem dX6_mark_8 : decode cX6_mark 8 = .ok (.iload_n 2, 1) := by decide +kernel
theorem dX6_mark_9 : decode cX6_mark 9 = .ok (.iconst 0, 1) := by decide +kernel
theorem dX6_mark_10 : decode cX6_mark 10 = .ok (.iconst 1, 1) := by decide +kernel
theorem dX6_mark_11 : decode cX6_mark 11 = .ok (.invokestatic 76, 3) := by decide +kernel
theorem dX6_mark_14 : decode cX6_mark 14 = .ok (.ifCond .ne 5, 3) := by decide +kernel
theorem dX6_mark_17 : decode cX6_mark 17 = .ok (.iconst (-1), 1) := by decide +kernel
theorem dX6_mark_18 : decode cX6_mark 18 = .ok (.ireturn, 1) := by decide +kernel
theorem dX6_mark_19 : decode cX6_mark 19 = .ok (.aload_n 0, 1) := by decide +kernel
theorem dX6_mark_20 : decode cX6_mark 20 = .ok (.iload_n 1, 1) := by decide +kernel
theorem dX6_mark_21 : decode cX6_mark 21 = .ok (.invokevirtual 240, 3) := by decide +kernel
theorem dX6_mark_24 : decode cX6_mark 24 = .ok (.istore_n 3, 1) := by decide +kernel
theorem dX6_mark_25 : decode cX6_mark 25 = .ok (.iload_n 3, 1) := by decide +kernel
theorem dX6_mark_26 : decode cX6_mark 26 = .ok (.ifCond .ne 6, 3) := by decide +kernel
theorem dX6_mark_29 : decode cX6_mark 29 = .ok (.bipush (-4), 2) := by decide +kernel
theorem dX6_mark_31 : decode cX6_mark 31 = .ok (.ireturn, 1) := by decide +kernel
theorem dX6_mark_32 : decode cX6_mark 32 = .ok (.aload_n 0, 1) := by decide +kernel
theorem dX6_mark_33 : decode cX6_mark 33 = .ok (.invokevirtual 243, 3) := by decide +kernel
theorem dX6_mark_36 : decode cX6_mark 36 = .ok (.i2l, 1) := by decide +kernel
theorem dX6_mark_37 : decode cX6_mark 37 = .ok (.iload_n 3, 1) := by decide +kernel
theorem dX6_mark_38 : decode cX6_mark 38 = .ok (.i2l, 1) := by decide +kernel
theorem dX6_mark_39 : decode cX6_mark 39 = .ok (.iload_n 2, 1) := by decide +kernel
theorem dX6_mark_40 : decode cX6_mark 40 = .ok (.ifCond .ne 7, 3) := by decide +kernel
theorem dX6_mark_43 : decode cX6_mark 43 = .ok (.iconst 1, 1) := by decide +kernel
theorem dX6_mark_44 : decode cX6_mark 44 = .ok (.goto 4, 3) := by decide +kernel
theorem dX6_mark_47 : decode cX6_mark 47 = .ok (.iconst 0, 1) := by decide +kernel
theorem dX6_mark_48 : decode cX6_mark 48 = .ok (.invokestatic 247, 3) := by decide +kernel
theorem dX6_mark_51 : decode cX6_mark 51 = .ok (.l2i, 1) := by decide +kernel
theorem dX6_mark_52 : decode cX6_mark 52 = .ok (.ireturn, 1) := by decide +kernel
theorem dX6_span_0 : decode cX6_span 0 = .ok (.aload_n 0, 1) := by decide +kernel
theorem dX6_span_1 : decode cX6_span 1 = .ok (.iload_n 1, 1) := by decide +kernel
theorem dX6_span_2 : decode cX6_span 2 = .ok (.invokevirtual 84, 3) := by decide +kernel
theorem dX6_span_5 : decode cX6_span 5 = .ok (.ifCond .eq 21, 3) := by decide +kernel
theorem dX6_span_8 : decode cX6_span 8 = .ok (.iload_n 2, 1) := by decide +kernel
theorem dX6_span_9 : decode cX6_span 9 = .ok (.iconst 0, 1) := by decide +kernel
theorem dX6_span_10 : decode cX6_span 10 = .ok (.iconst 3, 1) := by decide +kernel
theorem dX6_span_11 : decode cX6_span 11 = .ok (.invokestatic 76, 3) := by decide +kernel
theorem dX6_span_14 : decode cX6_span 14 = .ok (.ifCond .eq 12, 3) := by decide +kernel
theorem dX6_span_17 : decode cX6_span 17 = .ok (.iload_n 3, 1) := by decide +kernel
theorem dX6_span_18 : decode cX6_span 18 = .ok (.iconst 0, 1) := by decide +kernel
theorem dX6_span_19 : decode cX6_span 19 = .ok (.iconst 3, 1) := by decide +kernel
theorem dX6_span_20 : decode cX6_span 20 = .ok (.invokestatic 76, 3) := by decide +kernel
theorem dX6_span_23 : decode cX6_span 23 = .ok (.ifCond .ne 5, 3) := by decide +kernel
theorem dX6_span_26 : decode cX6_span 26 = .ok (.iconst (-1), 1) := by decide +kernel
theorem dX6_span_27 : decode cX6_span 27 = .ok (.ireturn, 1) := by decide +kernel
theorem dX6_span_28 : decode cX6_span 28 = .ok (.aload_n 0, 1) := by decide +kernel
theorem dX6_span_29 : decode cX6_span 29 = .ok (.iload_n 1, 1) := by decide +kernel
theorem dX6_span_30 : decode cX6_span 30 = .ok (.invokevirtual 240, 3) := by decide +kernel
theorem dX6_span_33 : decode cX6_span 33 = .ok (.istore 4, 2) := by decide +kernel
theorem dX6_span_35 : decode cX6_span 35 = .ok (.iload 4, 2) := by decide +kernel
theorem dX6_span_37 : decode cX6_span 37 = .ok (.ifCond .ne 6, 3) := by decide +kernel
theorem dX6_span_40 : decode cX6_span 40 = .ok (.bipush (-4), 2) := by decide +kernel
theorem dX6_span_42 : decode cX6_span 42 = .ok (.ireturn, 1) := by decide +kernel
theorem dX6_span_43 : decode cX6_span 43 = .ok (.iload_n 3, 1) := by decide +kernel
theorem dX6_span_44 : decode cX6_span 44 = .ok (.iconst 2, 1) := by decide +kernel
theorem dX6_span_45 : decode cX6_span 45 = .ok (.if_icmp .lt 7, 3) := by decide +kernel
theorem dX6_span_48 : decode cX6_span 48 = .ok (.iconst 1, 1) := by decide +kernel
theorem dX6_span_49 : decode cX6_span 49 = .ok (.goto 4, 3) := by decide +kernel
theorem dX6_span_52 : decode cX6_span 52 = .ok (.iconst 0, 1) := by decide +kernel
theorem dX6_span_53 : decode cX6_span 53 = .ok (.istore 5, 2) := by decide +kernel
theorem dX6_span_55 : decode cX6_span 55 = .ok (.aload_n 0, 1) := by decide +kernel
theorem dX6_span_56 : decode cX6_span 56 = .ok (.iload_n 2, 1) := by decide +kernel
theorem dX6_span_57 : decode cX6_span 57 = .ok (.iload 5, 2) := by decide +kernel
theorem dX6_span_59 : decode cX6_span 59 = .ok (.invokevirtual 251, 3) := by decide +kernel
theorem dX6_span_62 : decode cX6_span 62 = .ok (.istore 6, 2) := by decide +kernel
theorem dX6_span_64 : decode cX6_span 64 = .ok (.iload 5, 2) := by decide +kernel
theorem dX6_span_66 : decode cX6_span 66 = .ok (.ifCond .eq 13, 3) := by decide +kernel
theorem dX6_span_69 : decode cX6_span 69 = .ok (.aload_n 0, 1) := by decide +kernel
theorem dX6_span_70 : decode cX6_span 70 = .ok (.invokevirtual 243, 3) := by decide +kernel
theorem dX6_span_73 : decode cX6_span 73 = .ok (.iload 6, 2) := by decide +kernel
theorem dX6_span_75 : decode cX6_span 75 = .ok (.iadd, 1) := by decide +kernel
theorem dX6_span_76 : decode cX6_span 76 = .ok (.goto 10, 3) := by decide +kernel
theorem dX6_span_79 : decode cX6_span 79 = .ok (.aload_n 0, 1) := by decide +kernel
theorem dX6_span_80 : decode cX6_span 80 = .ok (.invokevirtual 243, 3) := by decide +kernel
theorem dX6_span_83 : decode cX6_span 83 = .ok (.iload 6, 2) := by decide +kernel
theorem dX6_span_85 : decode cX6_span 85 = .ok (.isub, 1) := by decide +kernel
theorem dX6_span_86 : decode cX6_span 86 = .ok (.istore 7, 2) := by decide +kernel
theorem dX6_span_88 : decode cX6_span 88 = .ok (.iload 7, 2) := by decide +kernel
theorem dX6_span_90 : decode cX6_span 90 = .ok (.i2l, 1) := by decide +kernel
theorem dX6_span_91 : decode cX6_span 91 = .ok (.iload 4, 2) := by decide +kernel
theorem dX6_span_93 : decode cX6_span 93 = .ok (.i2l, 1) := by decide +kernel
theorem dX6_span_94 : decode cX6_span 94 = .ok (.iload_n 3, 1) := by decide +kernel
theorem dX6_span_95 : decode cX6_span 95 = .ok (.iconst 2, 1) := by decide +kernel
theorem dX6_span_96 : decode cX6_span 96 = .ok (.irem, 1) := by decide +kernel
theorem dX6_span_97 : decode cX6_span 97 = .ok (.ifCond .ne 7, 3) := by decide +kernel
theorem dX6_span_100 : decode cX6_span 100 = .ok (.iconst 1, 1) := by decide +kernel
theorem dX6_span_101 : decode cX6_span 101 = .ok (.goto 4, 3) := by decide +kernel
theorem dX6_span_104 : decode cX6_span 104 = .ok (.iconst 0, 1) := by decide +kernel
theorem dX6_span_105 : decode cX6_span 105 = .ok (.invokestatic 247, 3) := by decide +kernel
theorem dX6_span_108 : decode cX6_span 108 = .ok (.l2i, 1) := by decide +kernel
theorem dX6_span_109 : decode cX6_span 109 = .ok (.ireturn, 1) := by decide +kernel
theorem dX6_ring_0 : decode cX6_ring 0 = .ok (.aload_n 0, 1) := by decide +kernel
theorem dX6_ring_1 : decode cX6_ring 1 = .ok (.iload_n 1, 1) := by decide +kernel
theorem dX6_ring_2 : decode cX6_ring 2 = .ok (.invokevirtual 196, 3) := by decide +kernel
theorem dX6_ring_5 : decode cX6_ring 5 = .ok (.ifCond .ne 5, 3) := by decide +kernel
theorem dX6_ring_8 : decode cX6_ring 8 = .ok (.iconst (-1), 1) := by decide +kernel
theorem dX6_ring_9 : decode cX6_ring 9 = .ok (.ireturn, 1) := by decide +kernel
theorem dX6_ring_10 : decode cX6_ring 10 = .ok (.iload_n 2, 1) := by decide +kernel
theorem dX6_ring_11 : decode cX6_ring 11 = .ok (.tableswitch 60 0 3 #[29, 37, 44, 53], 29) := by decide +kernel
theorem dX6_ring_40 : decode cX6_ring 40 = .ok (.aload_n 0, 1) := by decide +kernel
theorem dX6_ring_41 : decode cX6_ring 41 = .ok (.getfield 26, 3) := by decide +kernel
theorem dX6_ring_44 : decode cX6_ring 44 = .ok (.getfield 255, 3) := by decide +kernel
theorem dX6_ring_47 : decode cX6_ring 47 = .ok (.ireturn, 1) := by decide +kernel
theorem dX6_ring_48 : decode cX6_ring 48 = .ok (.aload_n 0, 1) := by decide +kernel
theorem dX6_ring_49 : decode cX6_ring 49 = .ok (.iload_n 1, 1) := by decide +kernel
theorem dX6_ring_50 : decode cX6_ring 50 = .ok (.iconst 0, 1) := by decide +kernel
theorem dX6_ring_51 : decode cX6_ring 51 = .ok (.invokevirtual 256, 3) := by decide +kernel
theorem dX6_ring_54 : decode cX6_ring 54 = .ok (.ireturn, 1) := by decide +kernel
theorem dX6_ring_55 : decode cX6_ring 55 = .ok (.aload_n 0, 1) := by decide +kernel
theorem dX6_ring_56 : decode cX6_ring 56 = .ok (.sipush 4095, 3) := by decide +kernel
theorem dX6_ring_59 : decode cX6_ring 59 = .ok (.iconst 1, 1) := by decide +kernel
theorem dX6_ring_60 : decode cX6_ring 60 = .ok (.invokevirtual 256, 3) := by decide +kernel
theorem dX6_ring_63 : decode cX6_ring 63 = .ok (.ireturn, 1) := by decide +kernel
theorem dX6_ring_64 : decode cX6_ring 64 = .ok (.aload_n 0, 1) := by decide +kernel
theorem dX6_ring_65 : decode cX6_ring 65 = .ok (.iload_n 1, 1) := by decide +kernel
theorem dX6_ring_66 : decode cX6_ring 66 = .ok (.iconst 1, 1) := by decide +kernel
theorem dX6_ring_67 : decode cX6_ring 67 = .ok (.invokevirtual 256, 3) := by decide +kernel
theorem dX6_ring_70 : decode cX6_ring 70 = .ok (.ireturn, 1) := by decide +kernel
theorem dX6_ring_71 : decode cX6_ring 71 = .ok (.iconst (-1), 1) := by decide +kernel
theorem dX6_ring_72 : decode cX6_ring 72 = .ok (.ireturn, 1) := by decide +kernel
theorem dX6_odds_0 : decode cX6_odds 0 = .ok (.aload_n 0, 1) := by decide +kernel
theorem dX6_odds_1 : decode cX6_odds 1 = .ok (.iload_n 1, 1) := by decide +kernel
theorem dX6_odds_2 : decode cX6_odds 2 = .ok (.invokevirtual 196, 3) := by decide +kernel
theorem dX6_odds_5 : decode cX6_odds 5 = .ok (.ifCond .eq 12, 3) := by decide +kernel
theorem dX6_odds_8 : decode cX6_odds 8 = .ok (.iload_n 2, 1) := by decide +kernel
theorem dX6_odds_9 : decode cX6_odds 9 = .ok (.iconst 0, 1) := by decide +kernel
theorem dX6_odds_10 : decode cX6_odds 10 = .ok (.iconst 1, 1) := by decide +kernel
theorem dX6_odds_11 : decode cX6_odds 11 = .ok (.invokestatic 76, 3) := by decide +kernel
theorem dX6_odds_14 : decode cX6_odds 14 = .ok (.ifCond .ne 7, 3) := by decide +kernel
theorem dX6_odds_17 : decode cX6_odds 17 = .ok (.ldc2_w 259, 3) := by decide +kernel
theorem dX6_odds_20 : decode cX6_odds 20 = .ok (.lreturn, 1) := by decide +kernel
theorem dX6_odds_21 : decode cX6_odds 21 = .ok (.aload_n 0, 1) := by decide +kernel
theorem dX6_odds_22 : decode cX6_odds 22 = .ok (.sipush 4095, 3) := by decide +kernel
theorem dX6_odds_25 : decode cX6_odds 25 = .ok (.iconst 1, 1) := by decide +kernel
theorem dX6_odds_26 : decode cX6_odds 26 = .ok (.invokevirtual 256, 3) := by decide +kernel
theorem dX6_odds_29 : decode cX6_odds 29 = .ok (.istore_n 3, 1) := by decide +kernel
theorem dX6_odds_30 : decode cX6_odds 30 = .ok (.aload_n 0, 1) := by decide +kernel
theorem dX6_odds_31 : decode cX6_odds 31 = .ok (.iload_n 1, 1) := by decide +kernel
theorem dX6_odds_32 : decode cX6_odds 32 = .ok (.iload_n 3, 1) := by decide +kernel
theorem dX6_odds_33 : decode cX6_odds 33 = .ok (.invokevirtual 261, 3) := by decide +kernel
theorem dX6_odds_36 : decode cX6_odds 36 = .ok (.aload_n 0, 1) := by decide +kernel
theorem dX6_odds_37 : decode cX6_odds 37 = .ok (.getfield 26, 3) := by decide +kernel
theorem dX6_odds_40 : decode cX6_odds 40 = .ok (.getfield 255, 3) := by decide +kernel
theorem dX6_odds_43 : decode cX6_odds 43 = .ok (.iload_n 3, 1) := by decide +kernel
theorem dX6_odds_44 : decode cX6_odds 44 = .ok (.invokestatic 265, 3) := by decide +kernel
theorem dX6_odds_47 : decode cX6_odds 47 = .ok (.iload_n 2, 1) := by decide +kernel
theorem dX6_odds_48 : decode cX6_odds 48 = .ok (.ifCond .ne 7, 3) := by decide +kernel
theorem dX6_odds_51 : decode cX6_odds 51 = .ok (.iconst 1, 1) := by decide +kernel
theorem dX6_odds_52 : decode cX6_odds 52 = .ok (.goto 4, 3) := by decide +kernel
theorem dX6_odds_55 : decode cX6_odds 55 = .ok (.iconst 0, 1) := by decide +kernel
theorem dX6_odds_56 : decode cX6_odds 56 = .ok (.invokestatic 247, 3) := by decide +kernel
theorem dX6_odds_59 : decode cX6_odds 59 = .ok (.lreturn, 1) := by decide +kernel
theorem dX6_oddest_0 : decode cX6_oddest 0 = .ok (.iload_n 1, 1) := by decide +kernel
theorem dX6_oddest_1 : decode cX6_oddest 1 = .ok (.iconst 0, 1) := by decide +kernel
theorem dX6_oddest_2 : decode cX6_oddest 2 = .ok (.iconst 2, 1) := by decide +kernel
theorem dX6_oddest_3 : decode cX6_oddest 3 = .ok (.invokestatic 76, 3) := by decide +kernel
theorem dX6_oddest_6 : decode cX6_oddest 6 = .ok (.ifCond .ne 7, 3) := by decide +kernel
theorem dX6_oddest_9 : decode cX6_oddest 9 = .ok (.ldc2_w 259, 3) := by decide +kernel
theorem dX6_oddest_12 : decode cX6_oddest 12 = .ok (.lreturn, 1) := by decide +kernel
theorem dX6_oddest_13 : decode cX6_oddest 13 = .ok (.aload_n 0, 1) := by decide +kernel
theorem dX6_oddest_14 : decode cX6_oddest 14 = .ok (.sipush 4095, 3) := by decide +kernel
theorem dX6_oddest_17 : decode cX6_oddest 17 = .ok (.iconst 1, 1) := by decide +kernel
theorem dX6_oddest_18 : decode cX6_oddest 18 = .ok (.invokevirtual 256, 3) := by decide +kernel
theorem dX6_oddest_21 : decode cX6_oddest 21 = .ok (.istore_n 2, 1) := by decide +kernel
theorem dX6_oddest_22 : decode cX6_oddest 22 = .ok (.aload_n 0, 1) := by decide +kernel
theorem dX6_oddest_23 : decode cX6_oddest 23 = .ok (.getfield 26, 3) := by decide +kernel
theorem dX6_oddest_26 : decode cX6_oddest 26 = .ok (.getfield 255, 3) := by decide +kernel
theorem dX6_oddest_29 : decode cX6_oddest 29 = .ok (.iload_n 2, 1) := by decide +kernel
theorem dX6_oddest_30 : decode cX6_oddest 30 = .ok (.invokestatic 265, 3) := by decide +kernel
theorem dX6_oddest_33 : decode cX6_oddest 33 = .ok (.lstore_n 3, 1) := by decide +kernel
theorem dX6_oddest_34 : decode cX6_oddest 34 = .ok (.lload_n 3, 1) := by decide +kernel
theorem dX6_oddest_35 : decode cX6_oddest 35 = .ok (.lstore 5, 2) := by decide +kernel
theorem dX6_oddest_37 : decode cX6_oddest 37 = .ok (.iconst 0, 1) := by decide +kernel
theorem dX6_oddest_38 : decode cX6_oddest 38 = .ok (.istore 7, 2) := by decide +kernel
theorem dX6_oddest_40 : decode cX6_oddest 40 = .ok (.iconst 0, 1) := by decide +kernel
theorem dX6_oddest_41 : decode cX6_oddest 41 = .ok (.istore 8, 2) := by decide +kernel
theorem dX6_oddest_43 : decode cX6_oddest 43 = .ok (.iload 8, 2) := by decide +kernel
theorem dX6_oddest_45 : decode cX6_oddest 45 = .ok (.iconst 1, 1) := by decide +kernel
theorem dX6_oddest_46 : decode cX6_oddest 46 = .ok (.aload_n 0, 1) := by decide +kernel
theorem dX6_oddest_47 : decode cX6_oddest 47 = .ok (.getfield 12, 3) := by decide +kernel
theorem dX6_oddest_50 : decode cX6_oddest 50 = .ok (.getfield 161, 3) := by decide +kernel
theorem dX6_oddest_53 : decode cX6_oddest 53 = .ok (.ishl, 1) := by decide +kernel
theorem dX6_oddest_54 : decode cX6_oddest 54 = .ok (.if_icmp .ge 50, 3) := by decide +kernel
theorem dX6_oddest_57 : decode cX6_oddest 57 = .ok (.iload 8, 2) := by decide +kernel
theorem dX6_oddest_59 : decode cX6_oddest 59 = .ok (.invokestatic 171, 3) := by decide +kernel
theorem dX6_oddest_62 : decode cX6_oddest 62 = .ok (.iconst 3, 1) := by decide +kernel
theorem dX6_oddest_63 : decode cX6_oddest 63 = .ok (.iconst 4, 1) := by decide +kernel
theorem dX6_oddest_64 : decode cX6_oddest 64 = .ok (.invokestatic 76, 3) := by decide +kernel
theorem dX6_oddest_67 : decode cX6_oddest 67 = .ok (.ifCond .ne 6, 3) := by decide +kernel
theorem dX6_oddest_70 : decode cX6_oddest 70 = .ok (.goto 28, 3) := by decide +kernel
theorem dX6_oddest_73 : decode cX6_oddest 73 = .ok (.aload_n 0, 1) := by decide +kernel
theorem dX6_oddest_74 : decode cX6_oddest 74 = .ok (.iload 8, 2) := by decide +kernel
theorem dX6_oddest_76 : decode cX6_oddest 76 = .ok (.iload_n 2, 1) := by decide +kernel
theorem dX6_oddest_77 : decode cX6_oddest 77 = .ok (.invokevirtual 261, 3) := by decide +kernel
theorem dX6_oddest_80 : decode cX6_oddest 80 = .ok (.lstore 9, 2) := by decide +kernel
theorem dX6_oddest_82 : decode cX6_oddest 82 = .ok (.lload 9, 2) := by decide +kernel
theorem dX6_oddest_84 : decode cX6_oddest 84 = .ok (.lload 5, 2) := by decide +kernel
theorem dX6_oddest_86 : decode cX6_oddest 86 = .ok (.lcmp, 1) := by decide +kernel
theorem dX6_oddest_87 : decode cX6_oddest 87 = .ok (.ifCond .ge 11, 3) := by decide +kernel
theorem dX6_oddest_90 : decode cX6_oddest 90 = .ok (.lload 9, 2) := by decide +kernel
theorem dX6_oddest_92 : decode cX6_oddest 92 = .ok (.lstore 5, 2) := by decide +kernel
theorem dX6_oddest_94 : decode cX6_oddest 94 = .ok (.iload 8, 2) := by decide +kernel
theorem dX6_oddest_96 : decode cX6_oddest 96 = .ok (.istore 7, 2) := by decide +kernel
theorem dX6_oddest_98 : decode cX6_oddest 98 = .ok (.iinc 8 1, 3) := by decide +kernel
theorem dX6_oddest_101 : decode cX6_oddest 101 = .ok (.goto (-58), 3) := by decide +kernel
theorem dX6_oddest_104 : decode cX6_oddest 104 = .ok (.iload 7, 2) := by decide +kernel
theorem dX6_oddest_106 : decode cX6_oddest 106 = .ok (.ifCond .ne 7, 3) := by decide +kernel
theorem dX6_oddest_109 : decode cX6_oddest 109 = .ok (.ldc2_w 268, 3) := by decide +kernel
theorem dX6_oddest_112 : decode cX6_oddest 112 = .ok (.lreturn, 1) := by decide +kernel
theorem dX6_oddest_113 : decode cX6_oddest 113 = .ok (.iload_n 1, 1) := by decide +kernel
theorem dX6_oddest_114 : decode cX6_oddest 114 = .ok (.ifCond .ne 9, 3) := by decide +kernel
theorem dX6_oddest_117 : decode cX6_oddest 117 = .ok (.iload 7, 2) := by decide +kernel
theorem dX6_oddest_119 : decode cX6_oddest 119 = .ok (.i2l, 1) := by decide +kernel
theorem dX6_oddest_120 : decode cX6_oddest 120 = .ok (.goto 19, 3) := by decide +kernel
theorem dX6_oddest_123 : decode cX6_oddest 123 = .ok (.lload 5, 2) := by decide +kernel
theorem dX6_oddest_125 : decode cX6_oddest 125 = .ok (.lload_n 3, 1) := by decide +kernel
theorem dX6_oddest_126 : decode cX6_oddest 126 = .ok (.iload_n 1, 1) := by decide +kernel
theorem dX6_oddest_127 : decode cX6_oddest 127 = .ok (.iconst 1, 1) := by decide +kernel
theorem dX6_oddest_128 : decode cX6_oddest 128 = .ok (.if_icmp .ne 7, 3) := by decide +kernel
theorem dX6_oddest_131 : decode cX6_oddest 131 = .ok (.iconst 1, 1) := by decide +kernel
theorem dX6_oddest_132 : decode cX6_oddest 132 = .ok (.goto 4, 3) := by decide +kernel
theorem dX6_oddest_135 : decode cX6_oddest 135 = .ok (.iconst 0, 1) := by decide +kernel
theorem dX6_oddest_136 : decode cX6_oddest 136 = .ok (.invokestatic 247, 3) := by decide +kernel
theorem dX6_oddest_139 : decode cX6_oddest 139 = .ok (.lreturn, 1) := by decide +kernel
theorem dX6_gain_0 : decode cX6_gain 0 = .ok (.aload_n 0, 1) := by decide +kernel
theorem dX6_gain_1 : decode cX6_gain 1 = .ok (.iload_n 1, 1) := by decide +kernel
theorem dX6_gain_2 : decode cX6_gain 2 = .ok (.invokevirtual 196, 3) := by decide +kernel
theorem dX6_gain_5 : decode cX6_gain 5 = .ok (.ifCond .eq 22, 3) := by decide +kernel
theorem dX6_gain_8 : decode cX6_gain 8 = .ok (.iload_n 2, 1) := by decide +kernel
theorem dX6_gain_9 : decode cX6_gain 9 = .ok (.iload_n 3, 1) := by decide +kernel
theorem dX6_gain_10 : decode cX6_gain 10 = .ok (.invokestatic 270, 3) := by decide +kernel
theorem dX6_gain_13 : decode cX6_gain 13 = .ok (.ifCond .eq 14, 3) := by decide +kernel
theorem dX6_gain_16 : decode cX6_gain 16 = .ok (.iload_n 1, 1) := by decide +kernel
theorem dX6_gain_17 : decode cX6_gain 17 = .ok (.aload_n 0, 1) := by decide +kernel
theorem dX6_gain_18 : decode cX6_gain 18 = .ok (.invokevirtual 273, 3) := by decide +kernel
theorem dX6_gain_21 : decode cX6_gain 21 = .ok (.iconst (-1), 1) := by decide +kernel
theorem dX6_gain_22 : decode cX6_gain 22 = .ok (.ixor, 1) := by decide +kernel
theorem dX6_gain_23 : decode cX6_gain 23 = .ok (.iand, 1) := by decide +kernel
theorem dX6_gain_24 : decode cX6_gain 24 = .ok (.ifCond .eq 7, 3) := by decide +kernel
theorem dX6_gain_27 : decode cX6_gain 27 = .ok (.ldc_w 276, 3) := by decide +kernel
theorem dX6_gain_30 : decode cX6_gain 30 = .ok (.ireturn, 1) := by decide +kernel
theorem dX6_gain_31 : decode cX6_gain 31 = .ok (.aload_n 0, 1) := by decide +kernel
theorem dX6_gain_32 : decode cX6_gain 32 = .ok (.invokevirtual 190, 3) := by decide +kernel
theorem dX6_gain_35 : decode cX6_gain 35 = .ok (.aload_n 0, 1) := by decide +kernel
theorem dX6_gain_36 : decode cX6_gain 36 = .ok (.iload_n 1, 1) := by decide +kernel
theorem dX6_gain_37 : decode cX6_gain 37 = .ok (.aload_n 0, 1) := by decide +kernel
theorem dX6_gain_38 : decode cX6_gain 38 = .ok (.iload_n 2, 1) := by decide +kernel
theorem dX6_gain_39 : decode cX6_gain 39 = .ok (.invokevirtual 277, 3) := by decide +kernel
theorem dX6_gain_42 : decode cX6_gain 42 = .ok (.iload_n 3, 1) := by decide +kernel
theorem dX6_gain_43 : decode cX6_gain 43 = .ok (.invokevirtual 280, 3) := by decide +kernel
theorem dX6_gain_46 : decode cX6_gain 46 = .ok (.ireturn, 1) := by decide +kernel
theorem dX6_best_0 : decode cX6_best 0 = .ok (.iload_n 1, 1) := by decide +kernel
theorem dX6_best_1 : decode cX6_best 1 = .ok (.iload_n 2, 1) := by decide +kernel
theorem dX6_best_2 : decode cX6_best 2 = .ok (.invokestatic 270, 3) := by decide +kernel
theorem dX6_best_5 : decode cX6_best 5 = .ok (.ifCond .eq 12, 3) := by decide +kernel
theorem dX6_best_8 : decode cX6_best 8 = .ok (.iload_n 3, 1) := by decide +kernel
theorem dX6_best_9 : decode cX6_best 9 = .ok (.iconst 0, 1) := by decide +kernel
theorem dX6_best_10 : decode cX6_best 10 = .ok (.iconst 1, 1) := by decide +kernel
theorem dX6_best_11 : decode cX6_best 11 = .ok (.invokestatic 76, 3) := by decide +kernel
theorem dX6_best_14 : decode cX6_best 14 = .ok (.ifCond .ne 5, 3) := by decide +kernel
theorem dX6_best_17 : decode cX6_best 17 = .ok (.iconst (-1), 1) := by decide +kernel
theorem dX6_best_18 : decode cX6_best 18 = .ok (.ireturn, 1) := by decide +kernel
theorem dX6_best_19 : decode cX6_best 19 = .ok (.aload_n 0, 1) := by decide +kernel
theorem dX6_best_20 : decode cX6_best 20 = .ok (.invokevirtual 273, 3) := by decide +kernel
theorem dX6_best_23 : decode cX6_best 23 = .ok (.istore 4, 2) := by decide +kernel
theorem dX6_best_25 : decode cX6_best 25 = .ok (.iload 4, 2) := by decide +kernel
theorem dX6_best_27 : decode cX6_best 27 = .ok (.invokestatic 171, 3) := by decide +kernel
theorem dX6_best_30 : decode cX6_best 30 = .ok (.bipush 8, 2) := by decide +kernel
theorem dX6_best_32 : decode cX6_best 32 = .ok (.if_icmp .le 6, 3) := by decide +kernel
theorem dX6_best_35 : decode cX6_best 35 = .ok (.bipush (-2), 2) := by decide +kernel
theorem dX6_best_37 : decode cX6_best 37 = .ok (.ireturn, 1) := by decide +kernel
theorem dX6_best_38 : decode cX6_best 38 = .ok (.aload_n 0, 1) := by decide +kernel
theorem dX6_best_39 : decode cX6_best 39 = .ok (.invokevirtual 190, 3) := by decide +kernel
theorem dX6_best_42 : decode cX6_best 42 = .ok (.aload_n 0, 1) := by decide +kernel
theorem dX6_best_43 : decode cX6_best 43 = .ok (.iload_n 1, 1) := by decide +kernel
theorem dX6_best_44 : decode cX6_best 44 = .ok (.invokevirtual 277, 3) := by decide +kernel
theorem dX6_best_47 : decode cX6_best 47 = .ok (.istore 5, 2) := by decide +kernel
theorem dX6_best_49 : decode cX6_best 49 = .ok (.iconst 0, 1) := by decide +kernel
theorem dX6_best_50 : decode cX6_best 50 = .ok (.istore 6, 2) := by decide +kernel
theorem dX6_best_52 : decode cX6_best 52 = .ok (.iconst 0, 1) := by decide +kernel
theorem dX6_best_53 : decode cX6_best 53 = .ok (.istore 7, 2) := by decide +kernel
theorem dX6_best_55 : decode cX6_best 55 = .ok (.iconst 1, 1) := by decide +kernel
theorem dX6_best_56 : decode cX6_best 56 = .ok (.istore 8, 2) := by decide +kernel
theorem dX6_best_58 : decode cX6_best 58 = .ok (.iload 8, 2) := by decide +kernel
theorem dX6_best_60 : decode cX6_best 60 = .ok (.iconst 1, 1) := by decide +kernel
theorem dX6_best_61 : decode cX6_best 61 = .ok (.aload_n 0, 1) := by decide +kernel
theorem dX6_best_62 : decode cX6_best 62 = .ok (.getfield 12, 3) := by decide +kernel
theorem dX6_best_65 : decode cX6_best 65 = .ok (.getfield 161, 3) := by decide +kernel
theorem dX6_best_68 : decode cX6_best 68 = .ok (.ishl, 1) := by decide +kernel
theorem dX6_best_69 : decode cX6_best 69 = .ok (.if_icmp .ge 49, 3) := by decide +kernel
theorem dX6_best_72 : decode cX6_best 72 = .ok (.iload 8, 2) := by decide +kernel
theorem dX6_best_74 : decode cX6_best 74 = .ok (.iload 4, 2) := by decide +kernel
theorem dX6_best_76 : decode cX6_best 76 = .ok (.iconst (-1), 1) := by decide +kernel
theorem dX6_best_77 : decode cX6_best 77 = .ok (.ixor, 1) := by decide +kernel
theorem dX6_best_78 : decode cX6_best 78 = .ok (.iand, 1) := by decide +kernel
theorem dX6_best_79 : decode cX6_best 79 = .ok (.ifCond .ne 15, 3) := by decide +kernel
theorem dX6_best_82 : decode cX6_best 82 = .ok (.aload_n 0, 1) := by decide +kernel
theorem dX6_best_83 : decode cX6_best 83 = .ok (.iload 8, 2) := by decide +kernel
theorem dX6_best_85 : decode cX6_best 85 = .ok (.iload 5, 2) := by decide +kernel
theorem dX6_best_87 : decode cX6_best 87 = .ok (.iload_n 2, 1) := by decide +kernel
theorem dX6_best_88 : decode cX6_best 88 = .ok (.invokevirtual 280, 3) := by decide +kernel
theorem dX6_best_91 : decode cX6_best 91 = .ok (.goto 4, 3) := by decide +kernel
theorem dX6_best_94 : decode cX6_best 94 = .ok (.iconst 0, 1) := by decide +kernel
theorem dX6_best_95 : decode cX6_best 95 = .ok (.istore 9, 2) := by decide +kernel
theorem dX6_best_97 : decode cX6_best 97 = .ok (.iload 9, 2) := by decide +kernel
theorem dX6_best_99 : decode cX6_best 99 = .ok (.iload 6, 2) := by decide +kernel
theorem dX6_best_101 : decode cX6_best 101 = .ok (.if_icmp .le 11, 3) := by decide +kernel
theorem dX6_best_104 : decode cX6_best 104 = .ok (.iload 9, 2) := by decide +kernel
theorem dX6_best_106 : decode cX6_best 106 = .ok (.istore 6, 2) := by decide +kernel
theorem dX6_best_108 : decode cX6_best 108 = .ok (.iload 8, 2) := by decide +kernel
theorem dX6_best_110 : decode cX6_best 110 = .ok (.istore 7, 2) := by decide +kernel
theorem dX6_best_112 : decode cX6_best 112 = .ok (.iinc 8 1, 3) := by decide +kernel
theorem dX6_best_115 : decode cX6_best 115 = .ok (.goto (-57), 3) := by decide +kernel
theorem dX6_best_118 : decode cX6_best 118 = .ok (.iload_n 3, 1) := by decide +kernel
theorem dX6_best_119 : decode cX6_best 119 = .ok (.ifCond .ne 8, 3) := by decide +kernel
theorem dX6_best_122 : decode cX6_best 122 = .ok (.iload 6, 2) := by decide +kernel
theorem dX6_best_124 : decode cX6_best 124 = .ok (.goto 5, 3) := by decide +kernel
theorem dX6_best_127 : decode cX6_best 127 = .ok (.iload 7, 2) := by decide +kernel
theorem dX6_best_129 : decode cX6_best 129 = .ok (.ireturn, 1) := by decide +kernel
theorem dX6_sheet_0 : decode cX6_sheet 0 = .ok (.iload_n 1, 1) := by decide +kernel
theorem dX6_sheet_1 : decode cX6_sheet 1 = .ok (.invokestatic 284, 3) := by decide +kernel
theorem dX6_sheet_4 : decode cX6_sheet 4 = .ok (.ifCond .eq 16, 3) := by decide +kernel
theorem dX6_sheet_7 : decode cX6_sheet 7 = .ok (.iload_n 2, 1) := by decide +kernel
theorem dX6_sheet_8 : decode cX6_sheet 8 = .ok (.invokestatic 287, 3) := by decide +kernel
theorem dX6_sheet_11 : decode cX6_sheet 11 = .ok (.ifCond .eq 9, 3) := by decide +kernel
theorem dX6_sheet_14 : decode cX6_sheet 14 = .ok (.iload_n 3, 1) := by decide +kernel
theorem dX6_sheet_15 : decode cX6_sheet 15 = .ok (.bipush 48, 2) := by decide +kernel
theorem dX6_sheet_17 : decode cX6_sheet 17 = .ok (.if_icmp .le 5, 3) := by decide +kernel
theorem dX6_sheet_20 : decode cX6_sheet 20 = .ok (.iconst (-1), 1) := by decide +kernel
theorem dX6_sheet_21 : decode cX6_sheet 21 = .ok (.ireturn, 1) := by decide +kernel
theorem dX6_sheet_22 : decode cX6_sheet 22 = .ok (.iload_n 3, 1) := by decide +kernel
theorem dX6_sheet_23 : decode cX6_sheet 23 = .ok (.ifCond .ge 6, 3) := by decide +kernel
theorem dX6_sheet_26 : decode cX6_sheet 26 = .ok (.bipush (-14), 2) := by decide +kernel
theorem dX6_sheet_28 : decode cX6_sheet 28 = .ok (.ireturn, 1) := by decide +kernel
theorem dX6_sheet_29 : decode cX6_sheet 29 = .ok (.aload_n 0, 1) := by decide +kernel
theorem dX6_sheet_30 : decode cX6_sheet 30 = .ok (.getfield 46, 3) := by decide +kernel
theorem dX6_sheet_33 : decode cX6_sheet 33 = .ok (.iload_n 1, 1) := by decide +kernel
theorem dX6_sheet_34 : decode cX6_sheet 34 = .ok (.aaload, 1) := by decide +kernel
theorem dX6_sheet_35 : decode cX6_sheet 35 = .ok (.iload_n 2, 1) := by decide +kernel
theorem dX6_sheet_36 : decode cX6_sheet 36 = .ok (.iload_n 3, 1) := by decide +kernel
theorem dX6_sheet_37 : decode cX6_sheet 37 = .ok (.invokevirtual 290, 3) := by decide +kernel
theorem dX6_sheet_40 : decode cX6_sheet 40 = .ok (.iconst 1, 1) := by decide +kernel
theorem dX6_sheet_41 : decode cX6_sheet 41 = .ok (.ireturn, 1) := by decide +kernel
theorem dX6_lay_0 : decode cX6_lay 0 = .ok (.iload_n 1, 1) := by decide +kernel
theorem dX6_lay_1 : decode cX6_lay 1 = .ok (.invokestatic 284, 3) := by decide +kernel
theorem dX6_lay_4 : decode cX6_lay 4 = .ok (.ifCond .ne 5, 3) := by decide +kernel
theorem dX6_lay_7 : decode cX6_lay 7 = .ok (.iconst (-1), 1) := by decide +kernel
theorem dX6_lay_8 : decode cX6_lay 8 = .ok (.ireturn, 1) := by decide +kernel
theorem dX6_lay_9 : decode cX6_lay 9 = .ok (.aload_n 0, 1) := by decide +kernel
theorem dX6_lay_10 : decode cX6_lay 10 = .ok (.getfield 46, 3) := by decide +kernel
theorem dX6_lay_13 : decode cX6_lay 13 = .ok (.iload_n 1, 1) := by decide +kernel
theorem dX6_lay_14 : decode cX6_lay 14 = .ok (.aaload, 1) := by decide +kernel
theorem dX6_lay_15 : decode cX6_lay 15 = .ok (.iload_n 2, 1) := by decide +kernel
theorem dX6_lay_16 : decode cX6_lay 16 = .ok (.invokevirtual 294, 3) := by decide +kernel
theorem dX6_lay_19 : decode cX6_lay 19 = .ok (.istore 4, 2) := by decide +kernel
theorem dX6_lay_21 : decode cX6_lay 21 = .ok (.iload 4, 2) := by decide +kernel
theorem dX6_lay_23 : decode cX6_lay 23 = .ok (.ifCond .eq 9, 3) := by decide +kernel
theorem dX6_lay_26 : decode cX6_lay 26 = .ok (.bipush (-10), 2) := by decide +kernel
theorem dX6_lay_28 : decode cX6_lay 28 = .ok (.iload 4, 2) := by decide +kernel
theorem dX6_lay_30 : decode cX6_lay 30 = .ok (.isub, 1) := by decide +kernel
theorem dX6_lay_31 : decode cX6_lay 31 = .ok (.ireturn, 1) := by decide +kernel
theorem dX6_lay_32 : decode cX6_lay 32 = .ok (.aload_n 0, 1) := by decide +kernel
theorem dX6_lay_33 : decode cX6_lay 33 = .ok (.getfield 46, 3) := by decide +kernel
theorem dX6_lay_36 : decode cX6_lay 36 = .ok (.iload_n 1, 1) := by decide +kernel
theorem dX6_lay_37 : decode cX6_lay 37 = .ok (.aaload, 1) := by decide +kernel
theorem dX6_lay_38 : decode cX6_lay 38 = .ok (.iload_n 2, 1) := by decide +kernel
theorem dX6_lay_39 : decode cX6_lay 39 = .ok (.iload_n 3, 1) := by decide +kernel
theorem dX6_lay_40 : decode cX6_lay 40 = .ok (.invokevirtual 297, 3) := by decide +kernel
theorem dX6_lay_43 : decode cX6_lay 43 = .ok (.iconst 1, 1) := by decide +kernel
theorem dX6_lay_44 : decode cX6_lay 44 = .ok (.ireturn, 1) := by decide +kernel
theorem dX6_read_0 : decode cX6_read 0 = .ok (.iload_n 1, 1) := by decide +kernel
theorem dX6_read_1 : decode cX6_read 1 = .ok (.invokestatic 284, 3) := by decide +kernel
theorem dX6_read_4 : decode cX6_read 4 = .ok (.ifCond .eq 21, 3) := by decide +kernel
theorem dX6_read_7 : decode cX6_read 7 = .ok (.iload_n 2, 1) := by decide +kernel
theorem dX6_read_8 : decode cX6_read 8 = .ok (.invokestatic 287, 3) := by decide +kernel
theorem dX6_read_11 : decode cX6_read 11 = .ok (.ifCond .eq 14, 3) := by decide +kernel
theorem dX6_read_14 : decode cX6_read 14 = .ok (.iload 4, 2) := by decide +kernel
theorem dX6_read_16 : decode cX6_read 16 = .ok (.iconst 0, 1) := by decide +kernel
theorem dX6_read_17 : decode cX6_read 17 = .ok (.bipush 12, 2) := by decide +kernel
theorem dX6_read_19 : decode cX6_read 19 = .ok (.invokestatic 76, 3) := by decide +kernel
theorem dX6_read_22 : decode cX6_read 22 = .ok (.ifCond .ne 5, 3) := by decide +kernel
theorem dX6_read_25 : decode cX6_read 25 = .ok (.iconst (-1), 1) := by decide +kernel
theorem dX6_read_26 : decode cX6_read 26 = .ok (.ireturn, 1) := by decide +kernel
theorem dX6_read_27 : decode cX6_read 27 = .ok (.aload_n 0, 1) := by decide +kernel
theorem dX6_read_28 : decode cX6_read 28 = .ok (.getfield 46, 3) := by decide +kernel
theorem dX6_read_31 : decode cX6_read 31 = .ok (.iload_n 1, 1) := by decide +kernel
theorem dX6_read_32 : decode cX6_read 32 = .ok (.aaload, 1) := by decide +kernel
theorem dX6_read_33 : decode cX6_read 33 = .ok (.astore 5, 2) := by decide +kernel
theorem dX6_read_35 : decode cX6_read 35 = .ok (.aload 5, 2) := by decide +kernel
theorem dX6_read_37 : decode cX6_read 37 = .ok (.iload_n 2, 1) := by decide +kernel
theorem dX6_read_38 : decode cX6_read 38 = .ok (.iload_n 3, 1) := by decide +kernel
theorem dX6_read_39 : decode cX6_read 39 = .ok (.iload 4, 2) := by decide +kernel
theorem dX6_read_41 : decode cX6_read 41 = .ok (.invokevirtual 300, 3) := by decide +kernel
theorem dX6_read_44 : decode cX6_read 44 = .ok (.istore 6, 2) := by decide +kernel
theorem dX6_read_46 : decode cX6_read 46 = .ok (.iconst 0, 1) := by decide +kernel
theorem dX6_read_47 : decode cX6_read 47 = .ok (.istore 7, 2) := by decide +kernel
theorem dX6_read_49 : decode cX6_read 49 = .ok (.iload 7, 2) := by decide +kernel
theorem dX6_read_51 : decode cX6_read 51 = .ok (.iload 6, 2) := by decide +kernel
theorem dX6_read_53 : decode cX6_read 53 = .ok (.if_icmp .ge 86, 3) := by decide +kernel
theorem dX6_read_56 : decode cX6_read 56 = .ok (.iload_n 3, 1) := by decide +kernel
theorem dX6_read_57 : decode cX6_read 57 = .ok (.iconst 4, 1) := by decide +kernel
theorem dX6_read_58 : decode cX6_read 58 = .ok (.iload 7, 2) := by decide +kernel
theorem dX6_read_60 : decode cX6_read 60 = .ok (.imul, 1) := by decide +kernel
theorem dX6_read_61 : decode cX6_read 61 = .ok (.iadd, 1) := by decide +kernel
theorem dX6_read_62 : decode cX6_read 62 = .ok (.istore 8, 2) := by decide +kernel
theorem dX6_read_64 : decode cX6_read 64 = .ok (.aload_n 0, 1) := by decide +kernel
theorem dX6_read_65 : decode cX6_read 65 = .ok (.aload 5, 2) := by decide +kernel
theorem dX6_read_67 : decode cX6_read 67 = .ok (.getfield 303, 3) := by decide +kernel
theorem dX6_read_70 : decode cX6_read 70 = .ok (.iload 8, 2) := by decide +kernel
theorem dX6_read_72 : decode cX6_read 72 = .ok (.iaload, 1) := by decide +kernel
theorem dX6_read_73 : decode cX6_read 73 = .ok (.aload 5, 2) := by decide +kernel
theorem dX6_read_75 : decode cX6_read 75 = .ok (.getfield 303, 3) := by decide +kernel
theorem dX6_read_78 : decode cX6_read 78 = .ok (.iload 8, 2) := by decide +kernel
theorem dX6_read_80 : decode cX6_read 80 = .ok (.iconst 1, 1) := by decide +kernel
theorem dX6_read_81 : decode cX6_read 81 = .ok (.iadd, 1) := by decide +kernel
theorem dX6_read_82 : decode cX6_read 82 = .ok (.iaload, 1) := by decide +kernel
theorem dX6_read_83 : decode cX6_read 83 = .ok (.aload 5, 2) := by decide +kernel
theorem dX6_read_85 : decode cX6_read 85 = .ok (.getfield 303, 3) := by decide +kernel
theorem dX6_read_88 : decode cX6_read 88 = .ok (.iload 8, 2) := by decide +kernel
theorem dX6_read_90 : decode cX6_read 90 = .ok (.iconst 2, 1) := by decide +kernel
theorem dX6_read_91 : decode cX6_read 91 = .ok (.iadd, 1) := by decide +kernel
theorem dX6_read_92 : decode cX6_read 92 = .ok (.iaload, 1) := by decide +kernel
theorem dX6_read_93 : decode cX6_read 93 = .ok (.aload 5, 2) := by decide +kernel
theorem dX6_read_95 : decode cX6_read 95 = .ok (.getfield 303, 3) := by decide +kernel
theorem dX6_read_98 : decode cX6_read 98 = .ok (.iload 8, 2) := by decide +kernel
theorem dX6_read_100 : decode cX6_read 100 = .ok (.iconst 3, 1) := by decide +kernel
theorem dX6_read_101 : decode cX6_read 101 = .ok (.iadd, 1) := by decide +kernel
theorem dX6_read_102 : decode cX6_read 102 = .ok (.iaload, 1) := by decide +kernel
theorem dX6_read_103 : decode cX6_read 103 = .ok (.iload 7, 2) := by decide +kernel
theorem dX6_read_105 : decode cX6_read 105 = .ok (.invokevirtual 214, 3) := by decide +kernel
theorem dX6_read_108 : decode cX6_read 108 = .ok (.istore 9, 2) := by decide +kernel
theorem dX6_read_110 : decode cX6_read 110 = .ok (.iload 9, 2) := by decide +kernel
theorem dX6_read_112 : decode cX6_read 112 = .ok (.ifCond .eq 21, 3) := by decide +kernel
theorem dX6_read_115 : decode cX6_read 115 = .ok (.iload 9, 2) := by decide +kernel
theorem dX6_read_117 : decode cX6_read 117 = .ok (.bipush (-3), 2) := by decide +kernel
theorem dX6_read_119 : decode cX6_read 119 = .ok (.if_icmp .ne 8, 3) := by decide +kernel
theorem dX6_read_122 : decode cX6_read 122 = .ok (.bipush (-3), 2) := by decide +kernel
theorem dX6_read_124 : decode cX6_read 124 = .ok (.goto 8, 3) := by decide +kernel
theorem dX6_read_127 : decode cX6_read 127 = .ok (.bipush (-20), 2) := by decide +kernel
theorem dX6_read_129 : decode cX6_read 129 = .ok (.iload 7, 2) := by decide +kernel
theorem dX6_read_131 : decode cX6_read 131 = .ok (.isub, 1) := by decide +kernel
theorem dX6_read_132 : decode cX6_read 132 = .ok (.ireturn, 1) := by decide +kernel
theorem dX6_read_133 : decode cX6_read 133 = .ok (.iinc 7 1, 3) := by decide +kernel
theorem dX6_read_136 : decode cX6_read 136 = .ok (.goto (-87), 3) := by decide +kernel
theorem dX6_read_139 : decode cX6_read 139 = .ok (.iconst 0, 1) := by decide +kernel
theorem dX6_read_140 : decode cX6_read 140 = .ok (.istore 7, 2) := by decide +kernel
theorem dX6_read_142 : decode cX6_read 142 = .ok (.iload 7, 2) := by decide +kernel
theorem dX6_read_144 : decode cX6_read 144 = .ok (.iload 6, 2) := by decide +kernel
theorem dX6_read_146 : decode cX6_read 146 = .ok (.if_icmp .ge 67, 3) := by decide +kernel
theorem dX6_read_149 : decode cX6_read 149 = .ok (.iload_n 3, 1) := by decide +kernel
theorem dX6_read_150 : decode cX6_read 150 = .ok (.iconst 4, 1) := by decide +kernel
theorem dX6_read_151 : decode cX6_read 151 = .ok (.iload 7, 2) := by decide +kernel
theorem dX6_read_153 : decode cX6_read 153 = .ok (.imul, 1) := by decide +kernel
theorem dX6_read_154 : decode cX6_read 154 = .ok (.iadd, 1) := by decide +kernel
theorem dX6_read_155 : decode cX6_read 155 = .ok (.istore 8, 2) := by decide +kernel
theorem dX6_read_157 : decode cX6_read 157 = .ok (.aload_n 0, 1) := by decide +kernel
theorem dX6_read_158 : decode cX6_read 158 = .ok (.getfield 26, 3) := by decide +kernel
theorem dX6_read_161 : decode cX6_read 161 = .ok (.aload 5, 2) := by decide +kernel
theorem dX6_read_163 : decode cX6_read 163 = .ok (.getfield 303, 3) := by decide +kernel
theorem dX6_read_166 : decode cX6_read 166 = .ok (.iload 8, 2) := by decide +kernel
theorem dX6_read_168 : decode cX6_read 168 = .ok (.iaload, 1) := by decide +kernel
theorem dX6_read_169 : decode cX6_read 169 = .ok (.aload 5, 2) := by decide +kernel
theorem dX6_read_171 : decode cX6_read 171 = .ok (.getfield 303, 3) := by decide +kernel
theorem dX6_read_174 : decode cX6_read 174 = .ok (.iload 8, 2) := by decide +kernel
theorem dX6_read_176 : decode cX6_read 176 = .ok (.iconst 1, 1) := by decide +kernel
theorem dX6_read_177 : decode cX6_read 177 = .ok (.iadd, 1) := by decide +kernel
theorem dX6_read_178 : decode cX6_read 178 = .ok (.iaload, 1) := by decide +kernel
theorem dX6_read_179 : decode cX6_read 179 = .ok (.aload 5, 2) := by decide +kernel
theorem dX6_read_181 : decode cX6_read 181 = .ok (.getfield 303, 3) := by decide +kernel
theorem dX6_read_184 : decode cX6_read 184 = .ok (.iload 8, 2) := by decide +kernel
theorem dX6_read_186 : decode cX6_read 186 = .ok (.iconst 2, 1) := by decide +kernel
theorem dX6_read_187 : decode cX6_read 187 = .ok (.iadd, 1) := by decide +kernel
theorem dX6_read_188 : decode cX6_read 188 = .ok (.iaload, 1) := by decide +kernel
theorem dX6_read_189 : decode cX6_read 189 = .ok (.aload 5, 2) := by decide +kernel
theorem dX6_read_191 : decode cX6_read 191 = .ok (.getfield 303, 3) := by decide +kernel
theorem dX6_read_194 : decode cX6_read 194 = .ok (.iload 8, 2) := by decide +kernel
theorem dX6_read_196 : decode cX6_read 196 = .ok (.iconst 3, 1) := by decide +kernel
theorem dX6_read_197 : decode cX6_read 197 = .ok (.iadd, 1) := by decide +kernel
theorem dX6_read_198 : decode cX6_read 198 = .ok (.iaload, 1) := by decide +kernel
theorem dX6_read_199 : decode cX6_read 199 = .ok (.aload_n 0, 1) := by decide +kernel
theorem dX6_read_200 : decode cX6_read 200 = .ok (.getfield 113, 3) := by decide +kernel
theorem dX6_read_203 : decode cX6_read 203 = .ok (.invokevirtual 217, 3) := by decide +kernel
theorem dX6_read_206 : decode cX6_read 206 = .ok (.pop, 1) := by decide +kernel
theorem dX6_read_207 : decode cX6_read 207 = .ok (.iinc 7 1, 3) := by decide +kernel
theorem dX6_read_210 : decode cX6_read 210 = .ok (.goto (-68), 3) := by decide +kernel
theorem dX6_read_213 : decode cX6_read 213 = .ok (.aload_n 0, 1) := by decide +kernel
theorem dX6_read_214 : decode cX6_read 214 = .ok (.aload 5, 2) := by decide +kernel
theorem dX6_read_216 : decode cX6_read 216 = .ok (.iload_n 2, 1) := by decide +kernel
theorem dX6_read_217 : decode cX6_read 217 = .ok (.iload 4, 2) := by decide +kernel
theorem dX6_read_219 : decode cX6_read 219 = .ok (.iload 6, 2) := by decide +kernel
theorem dX6_read_221 : decode cX6_read 221 = .ok (.invokevirtual 306, 3) := by decide +kernel
theorem dX6_read_224 : decode cX6_read 224 = .ok (.putfield 309, 3) := by decide +kernel
theorem dX6_read_227 : decode cX6_read 227 = .ok (.iload 6, 2) := by decide +kernel
theorem dX6_read_229 : decode cX6_read 229 = .ok (.ireturn, 1) := by decide +kernel
theorem dX6_lost_0 : decode cX6_lost 0 = .ok (.aload_n 0, 1) := by decide +kernel
theorem dX6_lost_1 : decode cX6_lost 1 = .ok (.getfield 309, 3) := by decide +kernel
theorem dX6_lost_4 : decode cX6_lost 4 = .ok (.ireturn, 1) := by decide +kernel
theorem dX6_count_0 : decode cX6_count 0 = .ok (.iload_n 1, 1) := by decide +kernel
theorem dX6_count_1 : decode cX6_count 1 = .ok (.tableswitch 168 0 10 #[59, 67, 79, 91, 96, 104, 112, 120, 128, 133, 141], 59) := by decide +kernel
theorem dX6_count_60 : decode cX6_count 60 = .ok (.aload_n 0, 1) := by decide +kernel
theorem dX6_count_61 : decode cX6_count 61 = .ok (.getfield 12, 3) := by decide +kernel
theorem dX6_count_64 : decode cX6_count 64 = .ok (.getfield 161, 3) := by decide +kernel
theorem dX6_count_67 : decode cX6_count 67 = .ok (.ireturn, 1) := by decide +kernel
theorem dX6_count_68 : decode cX6_count 68 = .ok (.aload_n 0, 1) := by decide +kernel
theorem dX6_count_69 : decode cX6_count 69 = .ok (.aload_n 0, 1) := by decide +kernel
theorem dX6_count_70 : decode cX6_count 70 = .ok (.getfield 12, 3) := by decide +kernel
theorem dX6_count_73 : decode cX6_count 73 = .ok (.getfield 88, 3) := by decide +kernel
theorem dX6_count_76 : decode cX6_count 76 = .ok (.invokevirtual 312, 3) := by decide +kernel
theorem dX6_count_79 : decode cX6_count 79 = .ok (.ireturn, 1) := by decide +kernel
theorem dX6_count_80 : decode cX6_count 80 = .ok (.aload_n 0, 1) := by decide +kernel
theorem dX6_count_81 : decode cX6_count 81 = .ok (.aload_n 0, 1) := by decide +kernel
theorem dX6_count_82 : decode cX6_count 82 = .ok (.getfield 12, 3) := by decide +kernel
theorem dX6_count_85 : decode cX6_count 85 = .ok (.getfield 96, 3) := by decide +kernel
theorem dX6_count_88 : decode cX6_count 88 = .ok (.invokevirtual 312, 3) := by decide +kernel
theorem dX6_count_91 : decode cX6_count 91 = .ok (.ireturn, 1) := by decide +kernel
theorem dX6_count_92 : decode cX6_count 92 = .ok (.aload_n 0, 1) := by decide +kernel
theorem dX6_count_93 : decode cX6_count 93 = .ok (.invokevirtual 316, 3) := by decide +kernel
theorem dX6_count_96 : decode cX6_count 96 = .ok (.ireturn, 1) := by decide +kernel
theorem dX6_count_97 : decode cX6_count 97 = .ok (.aload_n 0, 1) := by decide +kernel
theorem dX6_count_98 : decode cX6_count 98 = .ok (.getfield 19, 3) := by decide +kernel
theorem dX6_count_101 : decode cX6_count 101 = .ok (.getfield 109, 3) := by decide +kernel
theorem dX6_count_104 : decode cX6_count 104 = .ok (.ireturn, 1) := by decide +kernel
theorem dX6_count_105 : decode cX6_count 105 = .ok (.aload_n 0, 1) := by decide +kernel
theorem dX6_count_106 : decode cX6_count 106 = .ok (.sipush 4095, 3) := by decide +kernel
theorem dX6_count_109 : decode cX6_count 109 = .ok (.invokevirtual 155, 3) := by decide +kernel
theorem dX6_count_112 : decode cX6_count 112 = .ok (.ireturn, 1) := by decide +kernel
end
section
theorem dX6_count_113 : decode cX6_count 113 = .ok (.aload_n 0, 1) := by decide +kernel
theorem dX6_count_114 : decode cX6_count 114 = .ok (.getfield 26, 3) := by decide +kernel
theorem dX6_count_117 : decode cX6_count 117 = .ok (.getfield 255, 3) := by decide +kernel
theorem dX6_count_120 : decode cX6_count 120 = .ok (.ireturn, 1) := by decide +kernel
theorem dX6_count_121 : decode cX6_count 121 = .ok (.aload_n 0, 1) := by decide +kernel
theorem dX6_count_122 : decode cX6_count 122 = .ok (.getfield 26, 3) := by decide +kernel
theorem dX6_count_125 : decode cX6_count 125 = .ok (.invokevirtual 319, 3) := by decide +kernel
theorem dX6_count_128 : decode cX6_count 128 = .ok (.ireturn, 1) := by decide +kernel
theorem dX6_count_129 : decode cX6_count 129 = .ok (.aload_n 0, 1) := by decide +kernel
theorem dX6_count_130 : decode cX6_count 130 = .ok (.getfield 113, 3) := by decide +kernel
theorem dX6_count_133 : decode cX6_count 133 = .ok (.ireturn, 1) := by decide +kernel
theorem dX6_count_134 : decode cX6_count 134 = .ok (.aload_n 0, 1) := by decide +kernel
theorem dX6_count_135 : decode cX6_count 135 = .ok (.getfield 33, 3) := by decide +kernel
theorem dX6_count_138 : decode cX6_count 138 = .ok (.getfield 180, 3) := by decide +kernel
theorem dX6_count_141 : decode cX6_count 141 = .ok (.ireturn, 1) := by decide +kernel
theorem dX6_count_142 : decode cX6_count 142 = .ok (.aload_n 0, 1) := by decide +kernel
theorem dX6_count_143 : decode cX6_count 143 = .ok (.getfield 46, 3) := by decide +kernel
theorem dX6_count_146 : decode cX6_count 146 = .ok (.iconst 0, 1) := by decide +kernel
theorem dX6_count_147 : decode cX6_count 147 = .ok (.aaload, 1) := by decide +kernel
theorem dX6_count_148 : decode cX6_count 148 = .ok (.invokevirtual 322, 3) := by decide +kernel
theorem dX6_count_151 : decode cX6_count 151 = .ok (.ifCond .eq 8, 3) := by decide +kernel
theorem dX6_count_154 : decode cX6_count 154 = .ok (.bipush (-4), 2) := by decide +kernel
theorem dX6_count_156 : decode cX6_count 156 = .ok (.goto 12, 3) := by decide +kernel
theorem dX6_count_159 : decode cX6_count 159 = .ok (.aload_n 0, 1) := by decide +kernel
theorem dX6_count_160 : decode cX6_count 160 = .ok (.getfield 46, 3) := by decide +kernel
theorem dX6_count_163 : decode cX6_count 163 = .ok (.iconst 0, 1) := by decide +kernel
theorem dX6_count_164 : decode cX6_count 164 = .ok (.aaload, 1) := by decide +kernel
theorem dX6_count_165 : decode cX6_count 165 = .ok (.getfield 326, 3) := by decide +kernel
theorem dX6_count_168 : decode cX6_count 168 = .ok (.ireturn, 1) := by decide +kernel
theorem dX6_count_169 : decode cX6_count 169 = .ok (.iconst (-1), 1) := by decide +kernel
theorem dX6_count_170 : decode cX6_count 170 = .ok (.ireturn, 1) := by decide +kernel
theorem dX6_within_0 : decode cX6_within 0 = .ok (.iload_n 0, 1) := by decide +kernel
theorem dX6_within_1 : decode cX6_within 1 = .ok (.iload_n 1, 1) := by decide +kernel
theorem dX6_within_2 : decode cX6_within 2 = .ok (.if_icmp .lt 12, 3) := by decide +kernel
theorem dX6_within_5 : decode cX6_within 5 = .ok (.iload_n 0, 1) := by decide +kernel
theorem dX6_within_6 : decode cX6_within 6 = .ok (.iload_n 2, 1) := by decide +kernel
theorem dX6_within_7 : decode cX6_within 7 = .ok (.if_icmp .gt 7, 3) := by decide +kernel
theorem dX6_within_10 : decode cX6_within 10 = .ok (.iconst 1, 1) := by decide +kernel
theorem dX6_within_11 : decode cX6_within 11 = .ok (.goto 4, 3) := by decide +kernel
theorem dX6_within_14 : decode cX6_within 14 = .ok (.iconst 0, 1) := by decide +kernel
theorem dX6_within_15 : decode cX6_within 15 = .ok (.ireturn, 1) := by decide +kernel
theorem dX6_hasBit_0 : decode cX6_hasBit 0 = .ok (.iload_n 0, 1) := by decide +kernel
theorem dX6_hasBit_1 : decode cX6_hasBit 1 = .ok (.iload_n 1, 1) := by decide +kernel
theorem dX6_hasBit_2 : decode cX6_hasBit 2 = .ok (.ishr, 1) := by decide +kernel
theorem dX6_hasBit_3 : decode cX6_hasBit 3 = .ok (.iconst 1, 1) := by decide +kernel
theorem dX6_hasBit_4 : decode cX6_hasBit 4 = .ok (.iand, 1) := by decide +kernel
theorem dX6_hasBit_5 : decode cX6_hasBit 5 = .ok (.ifCond .eq 7, 3) := by decide +kernel
theorem dX6_hasBit_8 : decode cX6_hasBit 8 = .ok (.iconst 1, 1) := by decide +kernel
theorem dX6_hasBit_9 : decode cX6_hasBit 9 = .ok (.goto 4, 3) := by decide +kernel
theorem dX6_hasBit_12 : decode cX6_hasBit 12 = .ok (.iconst 0, 1) := by decide +kernel
theorem dX6_hasBit_13 : decode cX6_hasBit 13 = .ok (.ireturn, 1) := by decide +kernel
theorem dX6_oneIf_0 : decode cX6_oneIf 0 = .ok (.iload_n 0, 1) := by decide +kernel
theorem dX6_oneIf_1 : decode cX6_oneIf 1 = .ok (.ifCond .eq 7, 3) := by decide +kernel
theorem dX6_oneIf_4 : decode cX6_oneIf 4 = .ok (.iconst 1, 1) := by decide +kernel
theorem dX6_oneIf_5 : decode cX6_oneIf 5 = .ok (.goto 4, 3) := by decide +kernel
theorem dX6_oneIf_8 : decode cX6_oneIf 8 = .ok (.iconst 0, 1) := by decide +kernel
theorem dX6_oneIf_9 : decode cX6_oneIf 9 = .ok (.ireturn, 1) := by decide +kernel
theorem dX6_isName_0 : decode cX6_isName 0 = .ok (.iload_n 1, 1) := by decide +kernel
theorem dX6_isName_1 : decode cX6_isName 1 = .ok (.iconst 0, 1) := by decide +kernel
theorem dX6_isName_2 : decode cX6_isName 2 = .ok (.aload_n 0, 1) := by decide +kernel
theorem dX6_isName_3 : decode cX6_isName 3 = .ok (.getfield 12, 3) := by decide +kernel
theorem dX6_isName_6 : decode cX6_isName 6 = .ok (.getfield 161, 3) := by decide +kernel
theorem dX6_isName_9 : decode cX6_isName 9 = .ok (.iconst 1, 1) := by decide +kernel
theorem dX6_isName_10 : decode cX6_isName 10 = .ok (.isub, 1) := by decide +kernel
theorem dX6_isName_11 : decode cX6_isName 11 = .ok (.invokestatic 76, 3) := by decide +kernel
theorem dX6_isName_14 : decode cX6_isName 14 = .ok (.ireturn, 1) := by decide +kernel
theorem dX6_arePair_0 : decode cX6_arePair 0 = .ok (.aload_n 0, 1) := by decide +kernel
theorem dX6_arePair_1 : decode cX6_arePair 1 = .ok (.iload_n 1, 1) := by decide +kernel
theorem dX6_arePair_2 : decode cX6_arePair 2 = .ok (.invokevirtual 84, 3) := by decide +kernel
theorem dX6_arePair_5 : decode cX6_arePair 5 = .ok (.ifCond .eq 20, 3) := by decide +kernel
theorem dX6_arePair_8 : decode cX6_arePair 8 = .ok (.aload_n 0, 1) := by decide +kernel
theorem dX6_arePair_9 : decode cX6_arePair 9 = .ok (.iload_n 2, 1) := by decide +kernel
theorem dX6_arePair_10 : decode cX6_arePair 10 = .ok (.invokevirtual 84, 3) := by decide +kernel
theorem dX6_arePair_13 : decode cX6_arePair 13 = .ok (.ifCond .eq 12, 3) := by decide +kernel
theorem dX6_arePair_16 : decode cX6_arePair 16 = .ok (.iload_n 1, 1) := by decide +kernel
theorem dX6_arePair_17 : decode cX6_arePair 17 = .ok (.iload_n 2, 1) := by decide +kernel
theorem dX6_arePair_18 : decode cX6_arePair 18 = .ok (.if_icmp .eq 7, 3) := by decide +kernel
theorem dX6_arePair_21 : decode cX6_arePair 21 = .ok (.iconst 1, 1) := by decide +kernel
theorem dX6_arePair_22 : decode cX6_arePair 22 = .ok (.goto 4, 3) := by decide +kernel
theorem dX6_arePair_25 : decode cX6_arePair 25 = .ok (.iconst 0, 1) := by decide +kernel
theorem dX6_arePair_26 : decode cX6_arePair 26 = .ok (.ireturn, 1) := by decide +kernel
theorem dX6_isHeap_0 : decode cX6_isHeap 0 = .ok (.iload_n 1, 1) := by decide +kernel
theorem dX6_isHeap_1 : decode cX6_isHeap 1 = .ok (.iconst 0, 1) := by decide +kernel
theorem dX6_isHeap_2 : decode cX6_isHeap 2 = .ok (.iconst 1, 1) := by decide +kernel
theorem dX6_isHeap_3 : decode cX6_isHeap 3 = .ok (.aload_n 0, 1) := by decide +kernel
theorem dX6_isHeap_4 : decode cX6_isHeap 4 = .ok (.getfield 12, 3) := by decide +kernel
theorem dX6_isHeap_7 : decode cX6_isHeap 7 = .ok (.getfield 161, 3) := by decide +kernel
theorem dX6_isHeap_10 : decode cX6_isHeap 10 = .ok (.ishl, 1) := by decide +kernel
theorem dX6_isHeap_11 : decode cX6_isHeap 11 = .ok (.iconst 1, 1) := by decide +kernel
theorem dX6_isHeap_12 : decode cX6_isHeap 12 = .ok (.isub, 1) := by decide +kernel
theorem dX6_isHeap_13 : decode cX6_isHeap 13 = .ok (.invokestatic 76, 3) := by decide +kernel
theorem dX6_isHeap_16 : decode cX6_isHeap 16 = .ok (.ireturn, 1) := by decide +kernel
theorem dX6_isTie_0 : decode cX6_isTie 0 = .ok (.iload_n 1, 1) := by decide +kernel
theorem dX6_isTie_1 : decode cX6_isTie 1 = .ok (.iconst 0, 1) := by decide +kernel
theorem dX6_isTie_2 : decode cX6_isTie 2 = .ok (.aload_n 0, 1) := by decide +kernel
theorem dX6_isTie_3 : decode cX6_isTie 3 = .ok (.getfield 19, 3) := by decide +kernel
theorem dX6_isTie_6 : decode cX6_isTie 6 = .ok (.getfield 109, 3) := by decide +kernel
theorem dX6_isTie_9 : decode cX6_isTie 9 = .ok (.iconst 1, 1) := by decide +kernel
theorem dX6_isTie_10 : decode cX6_isTie 10 = .ok (.isub, 1) := by decide +kernel
theorem dX6_isTie_11 : decode cX6_isTie 11 = .ok (.invokestatic 76, 3) := by decide +kernel
theorem dX6_isTie_14 : decode cX6_isTie 14 = .ok (.ireturn, 1) := by decide +kernel
theorem dX6_isWord_0 : decode cX6_isWord 0 = .ok (.iload_n 1, 1) := by decide +kernel
theorem dX6_isWord_1 : decode cX6_isWord 1 = .ok (.iconst 0, 1) := by decide +kernel
theorem dX6_isWord_2 : decode cX6_isWord 2 = .ok (.aload_n 0, 1) := by decide +kernel
theorem dX6_isWord_3 : decode cX6_isWord 3 = .ok (.getfield 26, 3) := by decide +kernel
theorem dX6_isWord_6 : decode cX6_isWord 6 = .ok (.getfield 255, 3) := by decide +kernel
theorem dX6_isWord_9 : decode cX6_isWord 9 = .ok (.iconst 1, 1) := by decide +kernel
theorem dX6_isWord_10 : decode cX6_isWord 10 = .ok (.isub, 1) := by decide +kernel
theorem dX6_isWord_11 : decode cX6_isWord 11 = .ok (.invokestatic 76, 3) := by decide +kernel
theorem dX6_isWord_14 : decode cX6_isWord 14 = .ok (.ireturn, 1) := by decide +kernel
theorem dX6_isSheet_0 : decode cX6_isSheet 0 = .ok (.iload_n 0, 1) := by decide +kernel
theorem dX6_isSheet_1 : decode cX6_isSheet 1 = .ok (.iconst 0, 1) := by decide +kernel
theorem dX6_isSheet_2 : decode cX6_isSheet 2 = .ok (.iconst 3, 1) := by decide +kernel
theorem dX6_isSheet_3 : decode cX6_isSheet 3 = .ok (.invokestatic 76, 3) := by decide +kernel
theorem dX6_isSheet_6 : decode cX6_isSheet 6 = .ok (.ireturn, 1) := by decide +kernel
theorem dX6_isLane_0 : decode cX6_isLane 0 = .ok (.iload_n 0, 1) := by decide +kernel
theorem dX6_isLane_1 : decode cX6_isLane 1 = .ok (.iconst 0, 1) := by decide +kernel
theorem dX6_isLane_2 : decode cX6_isLane 2 = .ok (.iconst 2, 1) := by decide +kernel
theorem dX6_isLane_3 : decode cX6_isLane 3 = .ok (.invokestatic 76, 3) := by decide +kernel
theorem dX6_isLane_6 : decode cX6_isLane 6 = .ok (.ireturn, 1) := by decide +kernel
theorem dX6_isOffer_0 : decode cX6_isOffer 0 = .ok (.iload_n 0, 1) := by decide +kernel
theorem dX6_isOffer_1 : decode cX6_isOffer 1 = .ok (.iconst 1, 1) := by decide +kernel
theorem dX6_isOffer_2 : decode cX6_isOffer 2 = .ok (.sipush 999, 3) := by decide +kernel
theorem dX6_isOffer_5 : decode cX6_isOffer 5 = .ok (.invokestatic 76, 3) := by decide +kernel
theorem dX6_isOffer_8 : decode cX6_isOffer 8 = .ok (.ifCond .eq 17, 3) := by decide +kernel
theorem dX6_isOffer_11 : decode cX6_isOffer 11 = .ok (.iload_n 1, 1) := by decide +kernel
theorem dX6_isOffer_12 : decode cX6_isOffer 12 = .ok (.iconst 0, 1) := by decide +kernel
theorem dX6_isOffer_13 : decode cX6_isOffer 13 = .ok (.bipush 99, 2) := by decide +kernel
theorem dX6_isOffer_15 : decode cX6_isOffer 15 = .ok (.invokestatic 76, 3) := by decide +kernel
theorem dX6_isOffer_18 : decode cX6_isOffer 18 = .ok (.ifCond .eq 7, 3) := by decide +kernel
theorem dX6_isOffer_21 : decode cX6_isOffer 21 = .ok (.iconst 1, 1) := by decide +kernel
theorem dX6_isOffer_22 : decode cX6_isOffer 22 = .ok (.goto 4, 3) := by decide +kernel
theorem dX6_isOffer_25 : decode cX6_isOffer 25 = .ok (.iconst 0, 1) := by decide +kernel
theorem dX6_isOffer_26 : decode cX6_isOffer 26 = .ok (.ireturn, 1) := by decide +kernel
theorem dX6_isFined_0 : decode cX6_isFined 0 = .ok (.aload_n 0, 1) := by decide +kernel
theorem dX6_isFined_1 : decode cX6_isFined 1 = .ok (.getfield 113, 3) := by decide +kernel
theorem dX6_isFined_4 : decode cX6_isFined 4 = .ok (.aload_n 0, 1) := by decide +kernel
theorem dX6_isFined_5 : decode cX6_isFined 5 = .ok (.getfield 12, 3) := by decide +kernel
theorem dX6_isFined_8 : decode cX6_isFined 8 = .ok (.getfield 149, 3) := by decide +kernel
theorem dX6_isFined_11 : decode cX6_isFined 11 = .ok (.iload_n 1, 1) := by decide +kernel
theorem dX6_isFined_12 : decode cX6_isFined 12 = .ok (.iaload, 1) := by decide +kernel
theorem dX6_isFined_13 : decode cX6_isFined 13 = .ok (.if_icmp .ge 7, 3) := by decide +kernel
theorem dX6_isFined_16 : decode cX6_isFined 16 = .ok (.iconst 1, 1) := by decide +kernel
theorem dX6_isFined_17 : decode cX6_isFined 17 = .ok (.goto 4, 3) := by decide +kernel
theorem dX6_isFined_20 : decode cX6_isFined 20 = .ok (.iconst 0, 1) := by decide +kernel
theorem dX6_isFined_21 : decode cX6_isFined 21 = .ok (.ireturn, 1) := by decide +kernel
theorem dX6_isPlain_0 : decode cX6_isPlain 0 = .ok (.aload_n 0, 1) := by decide +kernel
theorem dX6_isPlain_1 : decode cX6_isPlain 1 = .ok (.getfield 12, 3) := by decide +kernel
theorem dX6_isPlain_4 : decode cX6_isPlain 4 = .ok (.getfield 88, 3) := by decide +kernel
theorem dX6_isPlain_7 : decode cX6_isPlain 7 = .ok (.iload_n 1, 1) := by decide +kernel
theorem dX6_isPlain_8 : decode cX6_isPlain 8 = .ok (.baload, 1) := by decide +kernel
theorem dX6_isPlain_9 : decode cX6_isPlain 9 = .ok (.ifCond .ne 19, 3) := by decide +kernel
theorem dX6_isPlain_12 : decode cX6_isPlain 12 = .ok (.aload_n 0, 1) := by decide +kernel
theorem dX6_isPlain_13 : decode cX6_isPlain 13 = .ok (.getfield 12, 3) := by decide +kernel
theorem dX6_isPlain_16 : decode cX6_isPlain 16 = .ok (.getfield 96, 3) := by decide +kernel
theorem dX6_isPlain_19 : decode cX6_isPlain 19 = .ok (.iload_n 1, 1) := by decide +kernel
theorem dX6_isPlain_20 : decode cX6_isPlain 20 = .ok (.baload, 1) := by decide +kernel
theorem dX6_isPlain_21 : decode cX6_isPlain 21 = .ok (.ifCond .ne 7, 3) := by decide +kernel
theorem dX6_isPlain_24 : decode cX6_isPlain 24 = .ok (.iconst 1, 1) := by decide +kernel
theorem dX6_isPlain_25 : decode cX6_isPlain 25 = .ok (.goto 4, 3) := by decide +kernel
theorem dX6_isPlain_28 : decode cX6_isPlain 28 = .ok (.iconst 0, 1) := by decide +kernel
theorem dX6_isPlain_29 : decode cX6_isPlain 29 = .ok (.ireturn, 1) := by decide +kernel
theorem dX6_countTrue_0 : decode cX6_countTrue 0 = .ok (.iconst 0, 1) := by decide +kernel
theorem dX6_countTrue_1 : decode cX6_countTrue 1 = .ok (.istore_n 2, 1) := by decide +kernel
theorem dX6_countTrue_2 : decode cX6_countTrue 2 = .ok (.iconst 0, 1) := by decide +kernel
theorem dX6_countTrue_3 : decode cX6_countTrue 3 = .ok (.istore_n 3, 1) := by decide +kernel
theorem dX6_countTrue_4 : decode cX6_countTrue 4 = .ok (.iload_n 3, 1) := by decide +kernel
theorem dX6_countTrue_5 : decode cX6_countTrue 5 = .ok (.aload_n 0, 1) := by decide +kernel
theorem dX6_countTrue_6 : decode cX6_countTrue 6 = .ok (.getfield 12, 3) := by decide +kernel
theorem dX6_countTrue_9 : decode cX6_countTrue 9 = .ok (.getfield 161, 3) := by decide +kernel
theorem dX6_countTrue_12 : decode cX6_countTrue 12 = .ok (.if_icmp .ge 18, 3) := by decide +kernel
theorem dX6_countTrue_15 : decode cX6_countTrue 15 = .ok (.iload_n 2, 1) := by decide +kernel
theorem dX6_countTrue_16 : decode cX6_countTrue 16 = .ok (.aload_n 1, 1) := by decide +kernel
theorem dX6_countTrue_17 : decode cX6_countTrue 17 = .ok (.iload_n 3, 1) := by decide +kernel
theorem dX6_countTrue_18 : decode cX6_countTrue 18 = .ok (.baload, 1) := by decide +kernel
theorem dX6_countTrue_19 : decode cX6_countTrue 19 = .ok (.invokestatic 92, 3) := by decide +kernel
theorem dX6_countTrue_22 : decode cX6_countTrue 22 = .ok (.iadd, 1) := by decide +kernel
theorem dX6_countTrue_23 : decode cX6_countTrue 23 = .ok (.istore_n 2, 1) := by decide +kernel
theorem dX6_countTrue_24 : decode cX6_countTrue 24 = .ok (.iinc 3 1, 3) := by decide +kernel
theorem dX6_countTrue_27 : decode cX6_countTrue 27 = .ok (.goto (-23), 3) := by decide +kernel
theorem dX6_countTrue_30 : decode cX6_countTrue 30 = .ok (.iload_n 2, 1) := by decide +kernel
theorem dX6_countTrue_31 : decode cX6_countTrue 31 = .ok (.ireturn, 1) := by decide +kernel
theorem dX6_countFined_0 : decode cX6_countFined 0 = .ok (.iconst 0, 1) := by decide +kernel
theorem dX6_countFined_1 : decode cX6_countFined 1 = .ok (.istore_n 1, 1) := by decide +kernel
theorem dX6_countFined_2 : decode cX6_countFined 2 = .ok (.iconst 0, 1) := by decide +kernel
theorem dX6_countFined_3 : decode cX6_countFined 3 = .ok (.istore_n 2, 1) := by decide +kernel
theorem dX6_countFined_4 : decode cX6_countFined 4 = .ok (.iload_n 2, 1) := by decide +kernel
theorem dX6_countFined_5 : decode cX6_countFined 5 = .ok (.aload_n 0, 1) := by decide +kernel
theorem dX6_countFined_6 : decode cX6_countFined 6 = .ok (.getfield 12, 3) := by decide +kernel
theorem dX6_countFined_9 : decode cX6_countFined 9 = .ok (.getfield 161, 3) := by decide +kernel
theorem dX6_countFined_12 : decode cX6_countFined 12 = .ok (.if_icmp .ge 20, 3) := by decide +kernel
theorem dX6_countFined_15 : decode cX6_countFined 15 = .ok (.iload_n 1, 1) := by decide +kernel
theorem dX6_countFined_16 : decode cX6_countFined 16 = .ok (.aload_n 0, 1) := by decide +kernel
theorem dX6_countFined_17 : decode cX6_countFined 17 = .ok (.iload_n 2, 1) := by decide +kernel
theorem dX6_countFined_18 : decode cX6_countFined 18 = .ok (.invokevirtual 146, 3) := by decide +kernel
theorem dX6_countFined_21 : decode cX6_countFined 21 = .ok (.invokestatic 92, 3) := by decide +kernel
theorem dX6_countFined_24 : decode cX6_countFined 24 = .ok (.iadd, 1) := by decide +kernel
theorem dX6_countFined_25 : decode cX6_countFined 25 = .ok (.istore_n 1, 1) := by decide +kernel
theorem dX6_countFined_26 : decode cX6_countFined 26 = .ok (.iinc 2 1, 3) := by decide +kernel
theorem dX6_countFined_29 : decode cX6_countFined 29 = .ok (.goto (-25), 3) := by decide +kernel
theorem dX6_countFined_32 : decode cX6_countFined 32 = .ok (.iload_n 1, 1) := by decide +kernel
theorem dX6_countFined_33 : decode cX6_countFined 33 = .ok (.ireturn, 1) := by decide +kernel
theorem dX6_standingFor_0 : decode cX6_standingFor 0 = .ok (.iconst 0, 1) := by decide +kernel
theorem dX6_standingFor_1 : decode cX6_standingFor 1 = .ok (.istore_n 2, 1) := by decide +kernel
theorem dX6_standingFor_2 : decode cX6_standingFor 2 = .ok (.iconst 0, 1) := by decide +kernel
theorem dX6_standingFor_3 : decode cX6_standingFor 3 = .ok (.istore_n 3, 1) := by decide +kernel
theorem dX6_standingFor_4 : decode cX6_standingFor 4 = .ok (.iload_n 3, 1) := by decide +kernel
theorem dX6_standingFor_5 : decode cX6_standingFor 5 = .ok (.aload_n 0, 1) := by decide +kernel
theorem dX6_standingFor_6 : decode cX6_standingFor 6 = .ok (.getfield 19, 3) := by decide +kernel
theorem dX6_standingFor_9 : decode cX6_standingFor 9 = .ok (.getfield 109, 3) := by decide +kernel
theorem dX6_standingFor_12 : decode cX6_standingFor 12 = .ok (.if_icmp .ge 66, 3) := by decide +kernel
theorem dX6_standingFor_15 : decode cX6_standingFor 15 = .ok (.aload_n 0, 1) := by decide +kernel
theorem dX6_standingFor_16 : decode cX6_standingFor 16 = .ok (.getfield 19, 3) := by decide +kernel
theorem dX6_standingFor_19 : decode cX6_standingFor 19 = .ok (.getfield 122, 3) := by decide +kernel
theorem dX6_standingFor_22 : decode cX6_standingFor 22 = .ok (.iload_n 3, 1) := by decide +kernel
theorem dX6_standingFor_23 : decode cX6_standingFor 23 = .ok (.iaload, 1) := by decide +kernel
theorem dX6_standingFor_24 : decode cX6_standingFor 24 = .ok (.istore 4, 2) := by decide +kernel
theorem dX6_standingFor_26 : decode cX6_standingFor 26 = .ok (.aload_n 0, 1) := by decide +kernel
theorem dX6_standingFor_27 : decode cX6_standingFor 27 = .ok (.getfield 19, 3) := by decide +kernel
theorem dX6_standingFor_30 : decode cX6_standingFor 30 = .ok (.getfield 131, 3) := by decide +kernel
theorem dX6_standingFor_33 : decode cX6_standingFor 33 = .ok (.iload_n 3, 1) := by decide +kernel
theorem dX6_standingFor_34 : decode cX6_standingFor 34 = .ok (.iaload, 1) := by decide +kernel
theorem dX6_standingFor_35 : decode cX6_standingFor 35 = .ok (.iconst 2, 1) := by decide +kernel
theorem dX6_standingFor_36 : decode cX6_standingFor 36 = .ok (.if_icmp .ne 36, 3) := by decide +kernel
theorem dX6_standingFor_39 : decode cX6_standingFor 39 = .ok (.aload_n 0, 1) := by decide +kernel
theorem dX6_standingFor_40 : decode cX6_standingFor 40 = .ok (.getfield 19, 3) := by decide +kernel
theorem dX6_standingFor_43 : decode cX6_standingFor 43 = .ok (.getfield 125, 3) := by decide +kernel
theorem dX6_standingFor_46 : decode cX6_standingFor 46 = .ok (.iload_n 3, 1) := by decide +kernel
theorem dX6_standingFor_47 : decode cX6_standingFor 47 = .ok (.iaload, 1) := by decide +kernel
theorem dX6_standingFor_48 : decode cX6_standingFor 48 = .ok (.iload_n 1, 1) := by decide +kernel
theorem dX6_standingFor_49 : decode cX6_standingFor 49 = .ok (.if_icmp .ne 23, 3) := by decide +kernel
theorem dX6_standingFor_52 : decode cX6_standingFor 52 = .ok (.aload_n 0, 1) := by decide +kernel
theorem dX6_standingFor_53 : decode cX6_standingFor 53 = .ok (.getfield 12, 3) := by decide +kernel
theorem dX6_standingFor_56 : decode cX6_standingFor 56 = .ok (.getfield 96, 3) := by decide +kernel
theorem dX6_standingFor_59 : decode cX6_standingFor 59 = .ok (.iload 4, 2) := by decide +kernel
theorem dX6_standingFor_61 : decode cX6_standingFor 61 = .ok (.baload, 1) := by decide +kernel
theorem dX6_standingFor_62 : decode cX6_standingFor 62 = .ok (.ifCond .ne 10, 3) := by decide +kernel
theorem dX6_standingFor_65 : decode cX6_standingFor 65 = .ok (.iload_n 2, 1) := by decide +kernel
theorem dX6_standingFor_66 : decode cX6_standingFor 66 = .ok (.iconst 1, 1) := by decide +kernel
theorem dX6_standingFor_67 : decode cX6_standingFor 67 = .ok (.iload 4, 2) := by decide +kernel
theorem dX6_standingFor_69 : decode cX6_standingFor 69 = .ok (.ishl, 1) := by decide +kernel
theorem dX6_standingFor_70 : decode cX6_standingFor 70 = .ok (.ior, 1) := by decide +kernel
theorem dX6_standingFor_71 : decode cX6_standingFor 71 = .ok (.istore_n 2, 1) := by decide +kernel
theorem dX6_standingFor_72 : decode cX6_standingFor 72 = .ok (.iinc 3 1, 3) := by decide +kernel
theorem dX6_standingFor_75 : decode cX6_standingFor 75 = .ok (.goto (-71), 3) := by decide +kernel
theorem dX6_standingFor_78 : decode cX6_standingFor 78 = .ok (.iload_n 2, 1) := by decide +kernel
theorem dX6_standingFor_79 : decode cX6_standingFor 79 = .ok (.ireturn, 1) := by decide +kernel
theorem dX6_pledgeRoom_0 : decode cX6_pledgeRoom 0 = .ok (.aload_n 0, 1) := by decide +kernel
theorem dX6_pledgeRoom_1 : decode cX6_pledgeRoom 1 = .ok (.getfield 12, 3) := by decide +kernel
theorem dX6_pledgeRoom_4 : decode cX6_pledgeRoom 4 = .ok (.getfield 99, 3) := by decide +kernel
theorem dX6_pledgeRoom_7 : decode cX6_pledgeRoom 7 = .ok (.iload_n 1, 1) := by decide +kernel
theorem dX6_pledgeRoom_8 : decode cX6_pledgeRoom 8 = .ok (.iaload, 1) := by decide +kernel
theorem dX6_pledgeRoom_9 : decode cX6_pledgeRoom 9 = .ok (.aload_n 0, 1) := by decide +kernel
theorem dX6_pledgeRoom_10 : decode cX6_pledgeRoom 10 = .ok (.getfield 50, 3) := by decide +kernel
theorem dX6_pledgeRoom_13 : decode cX6_pledgeRoom 13 = .ok (.bipush 7, 2) := by decide +kernel
theorem dX6_pledgeRoom_15 : decode cX6_pledgeRoom 15 = .ok (.iaload, 1) := by decide +kernel
theorem dX6_pledgeRoom_16 : decode cX6_pledgeRoom 16 = .ok (.imul, 1) := by decide +kernel
theorem dX6_pledgeRoom_17 : decode cX6_pledgeRoom 17 = .ok (.bipush 100, 2) := by decide +kernel
theorem dX6_pledgeRoom_19 : decode cX6_pledgeRoom 19 = .ok (.idiv, 1) := by decide +kernel
theorem dX6_pledgeRoom_20 : decode cX6_pledgeRoom 20 = .ok (.ireturn, 1) := by decide +kernel
theorem dX6_givenTo_0 : decode cX6_givenTo 0 = .ok (.aload_n 0, 1) := by decide +kernel
theorem dX6_givenTo_1 : decode cX6_givenTo 1 = .ok (.getfield 12, 3) := by decide +kernel
theorem dX6_givenTo_4 : decode cX6_givenTo 4 = .ok (.getfield 96, 3) := by decide +kernel
theorem dX6_givenTo_7 : decode cX6_givenTo 7 = .ok (.iload_n 1, 1) := by decide +kernel
theorem dX6_givenTo_8 : decode cX6_givenTo 8 = .ok (.baload, 1) := by decide +kernel
theorem dX6_givenTo_9 : decode cX6_givenTo 9 = .ok (.ifCond .eq 5, 3) := by decide +kernel
theorem dX6_givenTo_12 : decode cX6_givenTo 12 = .ok (.iconst 0, 1) := by decide +kernel
theorem dX6_givenTo_13 : decode cX6_givenTo 13 = .ok (.ireturn, 1) := by decide +kernel
theorem dX6_givenTo_14 : decode cX6_givenTo 14 = .ok (.aload_n 0, 1) := by decide +kernel
theorem dX6_givenTo_15 : decode cX6_givenTo 15 = .ok (.iload_n 1, 1) := by decide +kernel
theorem dX6_givenTo_16 : decode cX6_givenTo 16 = .ok (.invokevirtual 102, 3) := by decide +kernel
theorem dX6_givenTo_19 : decode cX6_givenTo 19 = .ok (.aload_n 0, 1) := by decide +kernel
theorem dX6_givenTo_20 : decode cX6_givenTo 20 = .ok (.getfield 12, 3) := by decide +kernel
theorem dX6_givenTo_23 : decode cX6_givenTo 23 = .ok (.getfield 88, 3) := by decide +kernel
theorem dX6_givenTo_26 : decode cX6_givenTo 26 = .ok (.iload_n 1, 1) := by decide +kernel
theorem dX6_givenTo_27 : decode cX6_givenTo 27 = .ok (.baload, 1) := by decide +kernel
theorem dX6_givenTo_28 : decode cX6_givenTo 28 = .ok (.ifCond .eq 13, 3) := by decide +kernel
theorem dX6_givenTo_31 : decode cX6_givenTo 31 = .ok (.aload_n 0, 1) := by decide +kernel
theorem dX6_givenTo_32 : decode cX6_givenTo 32 = .ok (.getfield 50, 3) := by decide +kernel
theorem dX6_givenTo_35 : decode cX6_givenTo 35 = .ok (.bipush 6, 2) := by decide +kernel
theorem dX6_givenTo_37 : decode cX6_givenTo 37 = .ok (.iaload, 1) := by decide +kernel
theorem dX6_givenTo_38 : decode cX6_givenTo 38 = .ok (.goto 4, 3) := by decide +kernel
theorem dX6_givenTo_41 : decode cX6_givenTo 41 = .ok (.iconst 0, 1) := by decide +kernel
theorem dX6_givenTo_42 : decode cX6_givenTo 42 = .ok (.iadd, 1) := by decide +kernel
theorem dX6_givenTo_43 : decode cX6_givenTo 43 = .ok (.ireturn, 1) := by decide +kernel
theorem dX6_faded_0 : decode cX6_faded 0 = .ok (.iconst 0, 1) := by decide +kernel
theorem dX6_faded_1 : decode cX6_faded 1 = .ok (.bipush 100, 2) := by decide +kernel
theorem dX6_faded_3 : decode cX6_faded 3 = .ok (.iload_n 1, 1) := by decide +kernel
theorem dX6_faded_4 : decode cX6_faded 4 = .ok (.iload_n 2, 1) := by decide +kernel
theorem dX6_faded_5 : decode cX6_faded 5 = .ok (.imul, 1) := by decide +kernel
theorem dX6_faded_6 : decode cX6_faded 6 = .ok (.bipush 100, 2) := by decide +kernel
theorem dX6_faded_8 : decode cX6_faded 8 = .ok (.idiv, 1) := by decide +kernel
theorem dX6_faded_9 : decode cX6_faded 9 = .ok (.isub, 1) := by decide +kernel
theorem dX6_faded_10 : decode cX6_faded 10 = .ok (.invokestatic 165, 3) := by decide +kernel
theorem dX6_faded_13 : decode cX6_faded 13 = .ok (.istore_n 3, 1) := by decide +kernel
theorem dX6_faded_14 : decode cX6_faded 14 = .ok (.iload_n 0, 1) := by decide +kernel
theorem dX6_faded_15 : decode cX6_faded 15 = .ok (.iload_n 3, 1) := by decide +kernel
theorem dX6_faded_16 : decode cX6_faded 16 = .ok (.imul, 1) := by decide +kernel
theorem dX6_faded_17 : decode cX6_faded 17 = .ok (.bipush 100, 2) := by decide +kernel
theorem dX6_faded_19 : decode cX6_faded 19 = .ok (.idiv, 1) := by decide +kernel
theorem dX6_faded_20 : decode cX6_faded 20 = .ok (.ireturn, 1) := by decide +kernel
theorem dX6_hasMadeEnd_0 : decode cX6_hasMadeEnd 0 = .ok (.aload_n 0, 1) := by decide +kernel
theorem dX6_hasMadeEnd_1 : decode cX6_hasMadeEnd 1 = .ok (.getfield 12, 3) := by decide +kernel
theorem dX6_hasMadeEnd_4 : decode cX6_hasMadeEnd 4 = .ok (.getfield 96, 3) := by decide +kernel
theorem dX6_hasMadeEnd_7 : decode cX6_hasMadeEnd 7 = .ok (.aload_n 0, 1) := by decide +kernel
theorem dX6_hasMadeEnd_8 : decode cX6_hasMadeEnd 8 = .ok (.getfield 19, 3) := by decide +kernel
theorem dX6_hasMadeEnd_11 : decode cX6_hasMadeEnd 11 = .ok (.getfield 122, 3) := by decide +kernel
theorem dX6_hasMadeEnd_14 : decode cX6_hasMadeEnd 14 = .ok (.iload_n 1, 1) := by decide +kernel
theorem dX6_hasMadeEnd_15 : decode cX6_hasMadeEnd 15 = .ok (.iaload, 1) := by decide +kernel
theorem dX6_hasMadeEnd_16 : decode cX6_hasMadeEnd 16 = .ok (.baload, 1) := by decide +kernel
theorem dX6_hasMadeEnd_17 : decode cX6_hasMadeEnd 17 = .ok (.ifCond .ne 23, 3) := by decide +kernel
theorem dX6_hasMadeEnd_20 : decode cX6_hasMadeEnd 20 = .ok (.aload_n 0, 1) := by decide +kernel
theorem dX6_hasMadeEnd_21 : decode cX6_hasMadeEnd 21 = .ok (.getfield 12, 3) := by decide +kernel
theorem dX6_hasMadeEnd_24 : decode cX6_hasMadeEnd 24 = .ok (.getfield 96, 3) := by decide +kernel
theorem dX6_hasMadeEnd_27 : decode cX6_hasMadeEnd 27 = .ok (.aload_n 0, 1) := by decide +kernel
theorem dX6_hasMadeEnd_28 : decode cX6_hasMadeEnd 28 = .ok (.getfield 19, 3) := by decide +kernel
theorem dX6_hasMadeEnd_31 : decode cX6_hasMadeEnd 31 = .ok (.getfield 125, 3) := by decide +kernel
theorem dX6_hasMadeEnd_34 : decode cX6_hasMadeEnd 34 = .ok (.iload_n 1, 1) := by decide +kernel
theorem dX6_hasMadeEnd_35 : decode cX6_hasMadeEnd 35 = .ok (.iaload, 1) := by decide +kernel
theorem dX6_hasMadeEnd_36 : decode cX6_hasMadeEnd 36 = .ok (.baload, 1) := by decide +kernel
theorem dX6_hasMadeEnd_37 : decode cX6_hasMadeEnd 37 = .ok (.ifCond .eq 7, 3) := by decide +kernel
theorem dX6_hasMadeEnd_40 : decode cX6_hasMadeEnd 40 = .ok (.iconst 1, 1) := by decide +kernel
theorem dX6_hasMadeEnd_41 : decode cX6_hasMadeEnd 41 = .ok (.goto 4, 3) := by decide +kernel
theorem dX6_hasMadeEnd_44 : decode cX6_hasMadeEnd 44 = .ok (.iconst 0, 1) := by decide +kernel
theorem dX6_hasMadeEnd_45 : decode cX6_hasMadeEnd 45 = .ok (.ireturn, 1) := by decide +kernel
theorem dX6_roomOf_0 : decode cX6_roomOf 0 = .ok (.aload_n 0, 1) := by decide +kernel
theorem dX6_roomOf_1 : decode cX6_roomOf 1 = .ok (.iload_n 1, 1) := by decide +kernel
theorem dX6_roomOf_2 : decode cX6_roomOf 2 = .ok (.invokevirtual 140, 3) := by decide +kernel
theorem dX6_roomOf_5 : decode cX6_roomOf 5 = .ok (.ifCond .eq 5, 3) := by decide +kernel
theorem dX6_roomOf_8 : decode cX6_roomOf 8 = .ok (.iconst 0, 1) := by decide +kernel
theorem dX6_roomOf_9 : decode cX6_roomOf 9 = .ok (.ireturn, 1) := by decide +kernel
theorem dX6_roomOf_10 : decode cX6_roomOf 10 = .ok (.aload_n 0, 1) := by decide +kernel
theorem dX6_roomOf_11 : decode cX6_roomOf 11 = .ok (.getfield 19, 3) := by decide +kernel
theorem dX6_roomOf_14 : decode cX6_roomOf 14 = .ok (.getfield 128, 3) := by decide +kernel
theorem dX6_roomOf_17 : decode cX6_roomOf 17 = .ok (.iload_n 1, 1) := by decide +kernel
theorem dX6_roomOf_18 : decode cX6_roomOf 18 = .ok (.iaload, 1) := by decide +kernel
theorem dX6_roomOf_19 : decode cX6_roomOf 19 = .ok (.aload_n 0, 1) := by decide +kernel
theorem dX6_roomOf_20 : decode cX6_roomOf 20 = .ok (.getfield 50, 3) := by decide +kernel
theorem dX6_roomOf_23 : decode cX6_roomOf 23 = .ok (.aload_n 0, 1) := by decide +kernel
theorem dX6_roomOf_24 : decode cX6_roomOf 24 = .ok (.getfield 19, 3) := by decide +kernel
theorem dX6_roomOf_27 : decode cX6_roomOf 27 = .ok (.getfield 131, 3) := by decide +kernel
theorem dX6_roomOf_30 : decode cX6_roomOf 30 = .ok (.iload_n 1, 1) := by decide +kernel
theorem dX6_roomOf_31 : decode cX6_roomOf 31 = .ok (.iaload, 1) := by decide +kernel
theorem dX6_roomOf_32 : decode cX6_roomOf 32 = .ok (.iaload, 1) := by decide +kernel
theorem dX6_roomOf_33 : decode cX6_roomOf 33 = .ok (.imul, 1) := by decide +kernel
theorem dX6_roomOf_34 : decode cX6_roomOf 34 = .ok (.bipush 100, 2) := by decide +kernel
theorem dX6_roomOf_36 : decode cX6_roomOf 36 = .ok (.idiv, 1) := by decide +kernel
theorem dX6_roomOf_37 : decode cX6_roomOf 37 = .ok (.aload_n 0, 1) := by decide +kernel
theorem dX6_roomOf_38 : decode cX6_roomOf 38 = .ok (.getfield 50, 3) := by decide +kernel
theorem dX6_roomOf_41 : decode cX6_roomOf 41 = .ok (.iconst 4, 1) := by decide +kernel
theorem dX6_roomOf_42 : decode cX6_roomOf 42 = .ok (.iaload, 1) := by decide +kernel
theorem dX6_roomOf_43 : decode cX6_roomOf 43 = .ok (.aload_n 0, 1) := by decide +kernel
theorem dX6_roomOf_44 : decode cX6_roomOf 44 = .ok (.getfield 113, 3) := by decide +kernel
theorem dX6_roomOf_47 : decode cX6_roomOf 47 = .ok (.aload_n 0, 1) := by decide +kernel
theorem dX6_roomOf_48 : decode cX6_roomOf 48 = .ok (.getfield 19, 3) := by decide +kernel
theorem dX6_roomOf_51 : decode cX6_roomOf 51 = .ok (.getfield 134, 3) := by decide +kernel
theorem dX6_roomOf_54 : decode cX6_roomOf 54 = .ok (.iload_n 1, 1) := by decide +kernel
theorem dX6_roomOf_55 : decode cX6_roomOf 55 = .ok (.iaload, 1) := by decide +kernel
theorem dX6_roomOf_56 : decode cX6_roomOf 56 = .ok (.isub, 1) := by decide +kernel
theorem dX6_roomOf_57 : decode cX6_roomOf 57 = .ok (.invokestatic 329, 3) := by decide +kernel
theorem dX6_roomOf_60 : decode cX6_roomOf 60 = .ok (.istore_n 2, 1) := by decide +kernel
theorem dX6_roomOf_61 : decode cX6_roomOf 61 = .ok (.aload_n 0, 1) := by decide +kernel
theorem dX6_roomOf_62 : decode cX6_roomOf 62 = .ok (.aload_n 0, 1) := by decide +kernel
theorem dX6_roomOf_63 : decode cX6_roomOf 63 = .ok (.getfield 19, 3) := by decide +kernel
theorem dX6_roomOf_66 : decode cX6_roomOf 66 = .ok (.getfield 122, 3) := by decide +kernel
theorem dX6_roomOf_69 : decode cX6_roomOf 69 = .ok (.iload_n 1, 1) := by decide +kernel
theorem dX6_roomOf_70 : decode cX6_roomOf 70 = .ok (.iaload, 1) := by decide +kernel
theorem dX6_roomOf_71 : decode cX6_roomOf 71 = .ok (.invokevirtual 146, 3) := by decide +kernel
theorem dX6_roomOf_74 : decode cX6_roomOf 74 = .ok (.ifCond .ne 19, 3) := by decide +kernel
theorem dX6_roomOf_77 : decode cX6_roomOf 77 = .ok (.aload_n 0, 1) := by decide +kernel
theorem dX6_roomOf_78 : decode cX6_roomOf 78 = .ok (.aload_n 0, 1) := by decide +kernel
theorem dX6_roomOf_79 : decode cX6_roomOf 79 = .ok (.getfield 19, 3) := by decide +kernel
theorem dX6_roomOf_82 : decode cX6_roomOf 82 = .ok (.getfield 125, 3) := by decide +kernel
theorem dX6_roomOf_85 : decode cX6_roomOf 85 = .ok (.iload_n 1, 1) := by decide +kernel
theorem dX6_roomOf_86 : decode cX6_roomOf 86 = .ok (.iaload, 1) := by decide +kernel
theorem dX6_roomOf_87 : decode cX6_roomOf 87 = .ok (.invokevirtual 146, 3) := by decide +kernel
theorem dX6_roomOf_90 : decode cX6_roomOf 90 = .ok (.ifCond .eq 9, 3) := by decide +kernel
theorem dX6_roomOf_93 : decode cX6_roomOf 93 = .ok (.iload_n 2, 1) := by decide +kernel
theorem dX6_roomOf_94 : decode cX6_roomOf 94 = .ok (.iconst 2, 1) := by decide +kernel
theorem dX6_roomOf_95 : decode cX6_roomOf 95 = .ok (.idiv, 1) := by decide +kernel
theorem dX6_roomOf_96 : decode cX6_roomOf 96 = .ok (.goto 4, 3) := by decide +kernel
theorem dX6_roomOf_99 : decode cX6_roomOf 99 = .ok (.iload_n 2, 1) := by decide +kernel
theorem dX6_roomOf_100 : decode cX6_roomOf 100 = .ok (.ireturn, 1) := by decide +kernel
theorem dX6_openTies_0 : decode cX6_openTies 0 = .ok (.iconst 0, 1) := by decide +kernel
theorem dX6_openTies_1 : decode cX6_openTies 1 = .ok (.istore_n 2, 1) := by decide +kernel
theorem dX6_openTies_2 : decode cX6_openTies 2 = .ok (.iconst 0, 1) := by decide +kernel
theorem dX6_openTies_3 : decode cX6_openTies 3 = .ok (.istore_n 3, 1) := by decide +kernel
theorem dX6_openTies_4 : decode cX6_openTies 4 = .ok (.iload_n 3, 1) := by decide +kernel
theorem dX6_openTies_5 : decode cX6_openTies 5 = .ok (.aload_n 0, 1) := by decide +kernel
theorem dX6_openTies_6 : decode cX6_openTies 6 = .ok (.getfield 19, 3) := by decide +kernel
theorem dX6_openTies_9 : decode cX6_openTies 9 = .ok (.getfield 109, 3) := by decide +kernel
theorem dX6_openTies_12 : decode cX6_openTies 12 = .ok (.if_icmp .ge 72, 3) := by decide +kernel
theorem dX6_openTies_15 : decode cX6_openTies 15 = .ok (.iload_n 1, 1) := by decide +kernel
theorem dX6_openTies_16 : decode cX6_openTies 16 = .ok (.aload_n 0, 1) := by decide +kernel
theorem dX6_openTies_17 : decode cX6_openTies 17 = .ok (.getfield 19, 3) := by decide +kernel
theorem dX6_openTies_20 : decode cX6_openTies 20 = .ok (.getfield 122, 3) := by decide +kernel
theorem dX6_openTies_23 : decode cX6_openTies 23 = .ok (.iload_n 3, 1) := by decide +kernel
theorem dX6_openTies_24 : decode cX6_openTies 24 = .ok (.iaload, 1) := by decide +kernel
theorem dX6_openTies_25 : decode cX6_openTies 25 = .ok (.invokestatic 162, 3) := by decide +kernel
theorem dX6_openTies_28 : decode cX6_openTies 28 = .ok (.ifCond .ne 19, 3) := by decide +kernel
theorem dX6_openTies_31 : decode cX6_openTies 31 = .ok (.iload_n 1, 1) := by decide +kernel
theorem dX6_openTies_32 : decode cX6_openTies 32 = .ok (.aload_n 0, 1) := by decide +kernel
theorem dX6_openTies_33 : decode cX6_openTies 33 = .ok (.getfield 19, 3) := by decide +kernel
theorem dX6_openTies_36 : decode cX6_openTies 36 = .ok (.getfield 125, 3) := by decide +kernel
theorem dX6_openTies_39 : decode cX6_openTies 39 = .ok (.iload_n 3, 1) := by decide +kernel
theorem dX6_openTies_40 : decode cX6_openTies 40 = .ok (.iaload, 1) := by decide +kernel
theorem dX6_openTies_41 : decode cX6_openTies 41 = .ok (.invokestatic 162, 3) := by decide +kernel
theorem dX6_openTies_44 : decode cX6_openTies 44 = .ok (.ifCond .eq 7, 3) := by decide +kernel
theorem dX6_openTies_47 : decode cX6_openTies 47 = .ok (.iconst 1, 1) := by decide +kernel
theorem dX6_openTies_48 : decode cX6_openTies 48 = .ok (.goto 4, 3) := by decide +kernel
theorem dX6_openTies_51 : decode cX6_openTies 51 = .ok (.iconst 0, 1) := by decide +kernel
theorem dX6_openTies_52 : decode cX6_openTies 52 = .ok (.istore 4, 2) := by decide +kernel
theorem dX6_openTies_54 : decode cX6_openTies 54 = .ok (.iload_n 2, 1) := by decide +kernel
theorem dX6_openTies_55 : decode cX6_openTies 55 = .ok (.iload 4, 2) := by decide +kernel
theorem dX6_openTies_57 : decode cX6_openTies 57 = .ok (.ifCond .eq 15, 3) := by decide +kernel
theorem dX6_openTies_60 : decode cX6_openTies 60 = .ok (.aload_n 0, 1) := by decide +kernel
theorem dX6_openTies_61 : decode cX6_openTies 61 = .ok (.iload_n 3, 1) := by decide +kernel
theorem dX6_openTies_62 : decode cX6_openTies 62 = .ok (.invokevirtual 137, 3) := by decide +kernel
theorem dX6_openTies_65 : decode cX6_openTies 65 = .ok (.ifCond .le 7, 3) := by decide +kernel
theorem dX6_openTies_68 : decode cX6_openTies 68 = .ok (.iconst 1, 1) := by decide +kernel
theorem dX6_openTies_69 : decode cX6_openTies 69 = .ok (.goto 4, 3) := by decide +kernel
theorem dX6_openTies_72 : decode cX6_openTies 72 = .ok (.iconst 0, 1) := by decide +kernel
theorem dX6_openTies_73 : decode cX6_openTies 73 = .ok (.invokestatic 92, 3) := by decide +kernel
theorem dX6_openTies_76 : decode cX6_openTies 76 = .ok (.iadd, 1) := by decide +kernel
theorem dX6_openTies_77 : decode cX6_openTies 77 = .ok (.istore_n 2, 1) := by decide +kernel
theorem dX6_openTies_78 : decode cX6_openTies 78 = .ok (.iinc 3 1, 3) := by decide +kernel
theorem dX6_openTies_81 : decode cX6_openTies 81 = .ok (.goto (-77), 3) := by decide +kernel
theorem dX6_openTies_84 : decode cX6_openTies 84 = .ok (.iload_n 2, 1) := by decide +kernel
theorem dX6_openTies_85 : decode cX6_openTies 85 = .ok (.ireturn, 1) := by decide +kernel
theorem dX6_layFlow_0 : decode cX6_layFlow 0 = .ok (.aload_n 0, 1) := by decide +kernel
theorem dX6_layFlow_1 : decode cX6_layFlow 1 = .ok (.getfield 40, 3) := by decide +kernel
theorem dX6_layFlow_4 : decode cX6_layFlow 4 = .ok (.invokevirtual 332, 3) := by decide +kernel
theorem dX6_layFlow_7 : decode cX6_layFlow 7 = .ok (.iconst 0, 1) := by decide +kernel
theorem dX6_layFlow_8 : decode cX6_layFlow 8 = .ok (.istore_n 1, 1) := by decide +kernel
theorem dX6_layFlow_9 : decode cX6_layFlow 9 = .ok (.iload_n 1, 1) := by decide +kernel
theorem dX6_layFlow_10 : decode cX6_layFlow 10 = .ok (.aload_n 0, 1) := by decide +kernel
theorem dX6_layFlow_11 : decode cX6_layFlow 11 = .ok (.getfield 12, 3) := by decide +kernel
theorem dX6_layFlow_14 : decode cX6_layFlow 14 = .ok (.getfield 161, 3) := by decide +kernel
theorem dX6_layFlow_17 : decode cX6_layFlow 17 = .ok (.if_icmp .ge 22, 3) := by decide +kernel
theorem dX6_layFlow_20 : decode cX6_layFlow 20 = .ok (.aload_n 0, 1) := by decide +kernel
theorem dX6_layFlow_21 : decode cX6_layFlow 21 = .ok (.getfield 40, 3) := by decide +kernel
theorem dX6_layFlow_24 : decode cX6_layFlow 24 = .ok (.iload_n 1, 1) := by decide +kernel
theorem dX6_layFlow_25 : decode cX6_layFlow 25 = .ok (.aload_n 0, 1) := by decide +kernel
theorem dX6_layFlow_26 : decode cX6_layFlow 26 = .ok (.iload_n 1, 1) := by decide +kernel
theorem dX6_layFlow_27 : decode cX6_layFlow 27 = .ok (.invokevirtual 152, 3) := by decide +kernel
theorem dX6_layFlow_30 : decode cX6_layFlow 30 = .ok (.invokevirtual 335, 3) := by decide +kernel
theorem dX6_layFlow_33 : decode cX6_layFlow 33 = .ok (.iinc 1 1, 3) := by decide +kernel
theorem dX6_layFlow_36 : decode cX6_layFlow 36 = .ok (.goto (-27), 3) := by decide +kernel
theorem dX6_layFlow_39 : decode cX6_layFlow 39 = .ok (.iconst 0, 1) := by decide +kernel
theorem dX6_layFlow_40 : decode cX6_layFlow 40 = .ok (.istore_n 1, 1) := by decide +kernel
theorem dX6_layFlow_41 : decode cX6_layFlow 41 = .ok (.iload_n 1, 1) := by decide +kernel
theorem dX6_layFlow_42 : decode cX6_layFlow 42 = .ok (.aload_n 0, 1) := by decide +kernel
theorem dX6_layFlow_43 : decode cX6_layFlow 43 = .ok (.getfield 19, 3) := by decide +kernel
theorem dX6_layFlow_46 : decode cX6_layFlow 46 = .ok (.getfield 109, 3) := by decide +kernel
theorem dX6_layFlow_49 : decode cX6_layFlow 49 = .ok (.if_icmp .ge 39, 3) := by decide +kernel
theorem dX6_layFlow_52 : decode cX6_layFlow 52 = .ok (.aload_n 0, 1) := by decide +kernel
theorem dX6_layFlow_53 : decode cX6_layFlow 53 = .ok (.getfield 40, 3) := by decide +kernel
theorem dX6_layFlow_56 : decode cX6_layFlow 56 = .ok (.aload_n 0, 1) := by decide +kernel
theorem dX6_layFlow_57 : decode cX6_layFlow 57 = .ok (.getfield 19, 3) := by decide +kernel
theorem dX6_layFlow_60 : decode cX6_layFlow 60 = .ok (.getfield 122, 3) := by decide +kernel
theorem dX6_layFlow_63 : decode cX6_layFlow 63 = .ok (.iload_n 1, 1) := by decide +kernel
theorem dX6_layFlow_64 : decode cX6_layFlow 64 = .ok (.iaload, 1) := by decide +kernel
theorem dX6_layFlow_65 : decode cX6_layFlow 65 = .ok (.aload_n 0, 1) := by decide +kernel
theorem dX6_layFlow_66 : decode cX6_layFlow 66 = .ok (.getfield 19, 3) := by decide +kernel
theorem dX6_layFlow_69 : decode cX6_layFlow 69 = .ok (.getfield 125, 3) := by decide +kernel
theorem dX6_layFlow_72 : decode cX6_layFlow 72 = .ok (.iload_n 1, 1) := by decide +kernel
theorem dX6_layFlow_73 : decode cX6_layFlow 73 = .ok (.iaload, 1) := by decide +kernel
theorem dX6_layFlow_74 : decode cX6_layFlow 74 = .ok (.aload_n 0, 1) := by decide +kernel
theorem dX6_layFlow_75 : decode cX6_layFlow 75 = .ok (.iload_n 1, 1) := by decide +kernel
theorem dX6_layFlow_76 : decode cX6_layFlow 76 = .ok (.invokevirtual 137, 3) := by decide +kernel
theorem dX6_layFlow_79 : decode cX6_layFlow 79 = .ok (.invokevirtual 338, 3) := by decide +kernel
theorem dX6_layFlow_82 : decode cX6_layFlow 82 = .ok (.iinc 1 1, 3) := by decide +kernel
theorem dX6_layFlow_85 : decode cX6_layFlow 85 = .ok (.goto (-44), 3) := by decide +kernel
theorem dX6_layFlow_88 : decode cX6_layFlow 88 = .ok (.return_, 1) := by decide +kernel
theorem dX6_tiesOutOf_0 : decode cX6_tiesOutOf 0 = .ok (.iconst 0, 1) := by decide +kernel
theorem dX6_tiesOutOf_1 : decode cX6_tiesOutOf 1 = .ok (.istore_n 2, 1) := by decide +kernel
theorem dX6_tiesOutOf_2 : decode cX6_tiesOutOf 2 = .ok (.iconst 0, 1) := by decide +kernel
theorem dX6_tiesOutOf_3 : decode cX6_tiesOutOf 3 = .ok (.istore_n 3, 1) := by decide +kernel
theorem dX6_tiesOutOf_4 : decode cX6_tiesOutOf 4 = .ok (.iload_n 3, 1) := by decide +kernel
theorem dX6_tiesOutOf_5 : decode cX6_tiesOutOf 5 = .ok (.aload_n 0, 1) := by decide +kernel
theorem dX6_tiesOutOf_6 : decode cX6_tiesOutOf 6 = .ok (.getfield 19, 3) := by decide +kernel
theorem dX6_tiesOutOf_9 : decode cX6_tiesOutOf 9 = .ok (.getfield 109, 3) := by decide +kernel
theorem dX6_tiesOutOf_12 : decode cX6_tiesOutOf 12 = .ok (.if_icmp .ge 64, 3) := by decide +kernel
theorem dX6_tiesOutOf_15 : decode cX6_tiesOutOf 15 = .ok (.iload_n 1, 1) := by decide +kernel
theorem dX6_tiesOutOf_16 : decode cX6_tiesOutOf 16 = .ok (.aload_n 0, 1) := by decide +kernel
theorem dX6_tiesOutOf_17 : decode cX6_tiesOutOf 17 = .ok (.getfield 19, 3) := by decide +kernel
theorem dX6_tiesOutOf_20 : decode cX6_tiesOutOf 20 = .ok (.getfield 122, 3) := by decide +kernel
theorem dX6_tiesOutOf_23 : decode cX6_tiesOutOf 23 = .ok (.iload_n 3, 1) := by decide +kernel
theorem dX6_tiesOutOf_24 : decode cX6_tiesOutOf 24 = .ok (.iaload, 1) := by decide +kernel
theorem dX6_tiesOutOf_25 : decode cX6_tiesOutOf 25 = .ok (.invokestatic 162, 3) := by decide +kernel
theorem dX6_tiesOutOf_28 : decode cX6_tiesOutOf 28 = .ok (.iload_n 1, 1) := by decide +kernel
theorem dX6_tiesOutOf_29 : decode cX6_tiesOutOf 29 = .ok (.aload_n 0, 1) := by decide +kernel
theorem dX6_tiesOutOf_30 : decode cX6_tiesOutOf 30 = .ok (.getfield 19, 3) := by decide +kernel
theorem dX6_tiesOutOf_33 : decode cX6_tiesOutOf 33 = .ok (.getfield 125, 3) := by decide +kernel
theorem dX6_tiesOutOf_36 : decode cX6_tiesOutOf 36 = .ok (.iload_n 3, 1) := by decide +kernel
theorem dX6_tiesOutOf_37 : decode cX6_tiesOutOf 37 = .ok (.iaload, 1) := by decide +kernel
theorem dX6_tiesOutOf_38 : decode cX6_tiesOutOf 38 = .ok (.invokestatic 162, 3) := by decide +kernel
theorem dX6_tiesOutOf_41 : decode cX6_tiesOutOf 41 = .ok (.if_icmp .eq 7, 3) := by decide +kernel
theorem dX6_tiesOutOf_44 : decode cX6_tiesOutOf 44 = .ok (.iconst 1, 1) := by decide +kernel
theorem dX6_tiesOutOf_45 : decode cX6_tiesOutOf 45 = .ok (.goto 4, 3) := by decide +kernel
theorem dX6_tiesOutOf_48 : decode cX6_tiesOutOf 48 = .ok (.iconst 0, 1) := by decide +kernel
theorem dX6_tiesOutOf_49 : decode cX6_tiesOutOf 49 = .ok (.istore 4, 2) := by decide +kernel
theorem dX6_tiesOutOf_51 : decode cX6_tiesOutOf 51 = .ok (.iload 4, 2) := by decide +kernel
theorem dX6_tiesOutOf_53 : decode cX6_tiesOutOf 53 = .ok (.ifCond .eq 17, 3) := by decide +kernel
theorem dX6_tiesOutOf_56 : decode cX6_tiesOutOf 56 = .ok (.aload_n 0, 1) := by decide +kernel
theorem dX6_tiesOutOf_57 : decode cX6_tiesOutOf 57 = .ok (.iload_n 3, 1) := by decide +kernel
theorem dX6_tiesOutOf_58 : decode cX6_tiesOutOf 58 = .ok (.invokevirtual 137, 3) := by decide +kernel
theorem dX6_tiesOutOf_61 : decode cX6_tiesOutOf 61 = .ok (.ifCond .le 9, 3) := by decide +kernel
theorem dX6_tiesOutOf_64 : decode cX6_tiesOutOf 64 = .ok (.iload_n 2, 1) := by decide +kernel
theorem dX6_tiesOutOf_65 : decode cX6_tiesOutOf 65 = .ok (.iconst 1, 1) := by decide +kernel
theorem dX6_tiesOutOf_66 : decode cX6_tiesOutOf 66 = .ok (.iload_n 3, 1) := by decide +kernel
theorem dX6_tiesOutOf_67 : decode cX6_tiesOutOf 67 = .ok (.ishl, 1) := by decide +kernel
theorem dX6_tiesOutOf_68 : decode cX6_tiesOutOf 68 = .ok (.ior, 1) := by decide +kernel
theorem dX6_tiesOutOf_69 : decode cX6_tiesOutOf 69 = .ok (.istore_n 2, 1) := by decide +kernel
theorem dX6_tiesOutOf_70 : decode cX6_tiesOutOf 70 = .ok (.iinc 3 1, 3) := by decide +kernel
theorem dX6_tiesOutOf_73 : decode cX6_tiesOutOf 73 = .ok (.goto (-69), 3) := by decide +kernel
theorem dX6_tiesOutOf_76 : decode cX6_tiesOutOf 76 = .ok (.iload_n 2, 1) := by decide +kernel
theorem dX6_tiesOutOf_77 : decode cX6_tiesOutOf 77 = .ok (.ireturn, 1) := by decide +kernel
theorem dX6_givenBeyond_0 : decode cX6_givenBeyond 0 = .ok (.iconst 0, 1) := by decide +kernel
theorem dX6_givenBeyond_1 : decode cX6_givenBeyond 1 = .ok (.istore_n 2, 1) := by decide +kernel
theorem dX6_givenBeyond_2 : decode cX6_givenBeyond 2 = .ok (.iconst 0, 1) := by decide +kernel
theorem dX6_givenBeyond_3 : decode cX6_givenBeyond 3 = .ok (.istore_n 3, 1) := by decide +kernel
theorem dX6_givenBeyond_4 : decode cX6_givenBeyond 4 = .ok (.iload_n 3, 1) := by decide +kernel
theorem dX6_givenBeyond_5 : decode cX6_givenBeyond 5 = .ok (.aload_n 0, 1) := by decide +kernel
theorem dX6_givenBeyond_6 : decode cX6_givenBeyond 6 = .ok (.getfield 12, 3) := by decide +kernel
theorem dX6_givenBeyond_9 : decode cX6_givenBeyond 9 = .ok (.getfield 161, 3) := by decide +kernel
theorem dX6_givenBeyond_12 : decode cX6_givenBeyond 12 = .ok (.if_icmp .ge 25, 3) := by decide +kernel
theorem dX6_givenBeyond_15 : decode cX6_givenBeyond 15 = .ok (.iload_n 1, 1) := by decide +kernel
theorem dX6_givenBeyond_16 : decode cX6_givenBeyond 16 = .ok (.iload_n 3, 1) := by decide +kernel
theorem dX6_givenBeyond_17 : decode cX6_givenBeyond 17 = .ok (.invokestatic 162, 3) := by decide +kernel
theorem dX6_givenBeyond_20 : decode cX6_givenBeyond 20 = .ok (.ifCond .ne 11, 3) := by decide +kernel
theorem dX6_givenBeyond_23 : decode cX6_givenBeyond 23 = .ok (.iload_n 2, 1) := by decide +kernel
theorem dX6_givenBeyond_24 : decode cX6_givenBeyond 24 = .ok (.aload_n 0, 1) := by decide +kernel
theorem dX6_givenBeyond_25 : decode cX6_givenBeyond 25 = .ok (.iload_n 3, 1) := by decide +kernel
theorem dX6_givenBeyond_26 : decode cX6_givenBeyond 26 = .ok (.invokevirtual 152, 3) := by decide +kernel
theorem dX6_givenBeyond_29 : decode cX6_givenBeyond 29 = .ok (.iadd, 1) := by decide +kernel
theorem dX6_givenBeyond_30 : decode cX6_givenBeyond 30 = .ok (.istore_n 2, 1) := by decide +kernel
theorem dX6_givenBeyond_31 : decode cX6_givenBeyond 31 = .ok (.iinc 3 1, 3) := by decide +kernel
theorem dX6_givenBeyond_34 : decode cX6_givenBeyond 34 = .ok (.goto (-30), 3) := by decide +kernel
theorem dX6_givenBeyond_37 : decode cX6_givenBeyond 37 = .ok (.iload_n 2, 1) := by decide +kernel
theorem dX6_givenBeyond_38 : decode cX6_givenBeyond 38 = .ok (.ireturn, 1) := by decide +kernel
theorem dX6_fillTrusts_0 : decode cX6_fillTrusts 0 = .ok (.aload_n 0, 1) := by decide +kernel
theorem dX6_fillTrusts_1 : decode cX6_fillTrusts 1 = .ok (.invokevirtual 190, 3) := by decide +kernel
theorem dX6_fillTrusts_4 : decode cX6_fillTrusts 4 = .ok (.iconst 0, 1) := by decide +kernel
theorem dX6_fillTrusts_5 : decode cX6_fillTrusts 5 = .ok (.istore_n 1, 1) := by decide +kernel
theorem dX6_fillTrusts_6 : decode cX6_fillTrusts 6 = .ok (.iload_n 1, 1) := by decide +kernel
theorem dX6_fillTrusts_7 : decode cX6_fillTrusts 7 = .ok (.aload_n 0, 1) := by decide +kernel
theorem dX6_fillTrusts_8 : decode cX6_fillTrusts 8 = .ok (.getfield 12, 3) := by decide +kernel
theorem dX6_fillTrusts_11 : decode cX6_fillTrusts 11 = .ok (.getfield 161, 3) := by decide +kernel
theorem dX6_fillTrusts_14 : decode cX6_fillTrusts 14 = .ok (.if_icmp .ge 37, 3) := by decide +kernel
theorem dX6_fillTrusts_17 : decode cX6_fillTrusts 17 = .ok (.aload_n 0, 1) := by decide +kernel
theorem dX6_fillTrusts_18 : decode cX6_fillTrusts 18 = .ok (.getfield 63, 3) := by decide +kernel
theorem dX6_fillTrusts_21 : decode cX6_fillTrusts 21 = .ok (.iload_n 1, 1) := by decide +kernel
theorem dX6_fillTrusts_22 : decode cX6_fillTrusts 22 = .ok (.aload_n 0, 1) := by decide +kernel
theorem dX6_fillTrusts_23 : decode cX6_fillTrusts 23 = .ok (.iload_n 1, 1) := by decide +kernel
theorem dX6_fillTrusts_24 : decode cX6_fillTrusts 24 = .ok (.invokevirtual 208, 3) := by decide +kernel
theorem dX6_fillTrusts_27 : decode cX6_fillTrusts 27 = .ok (.ifCond .eq 16, 3) := by decide +kernel
theorem dX6_fillTrusts_30 : decode cX6_fillTrusts 30 = .ok (.aload_n 0, 1) := by decide +kernel
theorem dX6_fillTrusts_31 : decode cX6_fillTrusts 31 = .ok (.getfield 40, 3) := by decide +kernel
theorem dX6_fillTrusts_34 : decode cX6_fillTrusts 34 = .ok (.iconst 1, 1) := by decide +kernel
theorem dX6_fillTrusts_35 : decode cX6_fillTrusts 35 = .ok (.iload_n 1, 1) := by decide +kernel
theorem dX6_fillTrusts_36 : decode cX6_fillTrusts 36 = .ok (.ishl, 1) := by decide +kernel
theorem dX6_fillTrusts_37 : decode cX6_fillTrusts 37 = .ok (.invokevirtual 193, 3) := by decide +kernel
theorem dX6_fillTrusts_40 : decode cX6_fillTrusts 40 = .ok (.goto 4, 3) := by decide +kernel
theorem dX6_fillTrusts_43 : decode cX6_fillTrusts 43 = .ok (.iconst 0, 1) := by decide +kernel
theorem dX6_fillTrusts_44 : decode cX6_fillTrusts 44 = .ok (.iastore, 1) := by decide +kernel
theorem dX6_fillTrusts_45 : decode cX6_fillTrusts 45 = .ok (.iinc 1 1, 3) := by decide +kernel
theorem dX6_fillTrusts_48 : decode cX6_fillTrusts 48 = .ok (.goto (-42), 3) := by decide +kernel
theorem dX6_fillTrusts_51 : decode cX6_fillTrusts 51 = .ok (.return_, 1) := by decide +kernel
theorem dX6_refusalOf_0 : decode cX6_refusalOf 0 = .ok (.aload_n 0, 1) := by decide +kernel
theorem dX6_refusalOf_1 : decode cX6_refusalOf 1 = .ok (.iload_n 1, 1) := by decide +kernel
theorem dX6_refusalOf_2 : decode cX6_refusalOf 2 = .ok (.iload_n 2, 1) := by decide +kernel
theorem dX6_refusalOf_3 : decode cX6_refusalOf 3 = .ok (.invokevirtual 105, 3) := by decide +kernel
theorem dX6_refusalOf_6 : decode cX6_refusalOf 6 = .ok (.ifCond .eq 24, 3) := by decide +kernel
theorem dX6_refusalOf_9 : decode cX6_refusalOf 9 = .ok (.iload_n 3, 1) := by decide +kernel
theorem dX6_refusalOf_10 : decode cX6_refusalOf 10 = .ok (.iconst 0, 1) := by decide +kernel
theorem dX6_refusalOf_11 : decode cX6_refusalOf 11 = .ok (.bipush 99, 2) := by decide +kernel
theorem dX6_refusalOf_13 : decode cX6_refusalOf 13 = .ok (.invokestatic 76, 3) := by decide +kernel
theorem dX6_refusalOf_16 : decode cX6_refusalOf 16 = .ok (.ifCond .eq 14, 3) := by decide +kernel
theorem dX6_refusalOf_19 : decode cX6_refusalOf 19 = .ok (.iload 4, 2) := by decide +kernel
theorem dX6_refusalOf_21 : decode cX6_refusalOf 21 = .ok (.iconst 0, 1) := by decide +kernel
theorem dX6_refusalOf_22 : decode cX6_refusalOf 22 = .ok (.bipush 10, 2) := by decide +kernel
theorem dX6_refusalOf_24 : decode cX6_refusalOf 24 = .ok (.invokestatic 76, 3) := by decide +kernel
theorem dX6_refusalOf_27 : decode cX6_refusalOf 27 = .ok (.ifCond .ne 5, 3) := by decide +kernel
theorem dX6_refusalOf_30 : decode cX6_refusalOf 30 = .ok (.iconst (-1), 1) := by decide +kernel
theorem dX6_refusalOf_31 : decode cX6_refusalOf 31 = .ok (.ireturn, 1) := by decide +kernel
theorem dX6_refusalOf_32 : decode cX6_refusalOf 32 = .ok (.aload_n 0, 1) := by decide +kernel
theorem dX6_refusalOf_33 : decode cX6_refusalOf 33 = .ok (.getfield 26, 3) := by decide +kernel
theorem dX6_refusalOf_36 : decode cX6_refusalOf 36 = .ok (.getfield 255, 3) := by decide +kernel
theorem dX6_refusalOf_39 : decode cX6_refusalOf 39 = .ok (.iload 5, 2) := by decide +kernel
theorem dX6_refusalOf_41 : decode cX6_refusalOf 41 = .ok (.iadd, 1) := by decide +kernel
theorem dX6_refusalOf_42 : decode cX6_refusalOf 42 = .ok (.bipush 24, 2) := by decide +kernel
theorem dX6_refusalOf_44 : decode cX6_refusalOf 44 = .ok (.if_icmp .lt 6, 3) := by decide +kernel
theorem dX6_refusalOf_47 : decode cX6_refusalOf 47 = .ok (.bipush (-3), 2) := by decide +kernel
theorem dX6_refusalOf_49 : decode cX6_refusalOf 49 = .ok (.ireturn, 1) := by decide +kernel
theorem dX6_refusalOf_50 : decode cX6_refusalOf 50 = .ok (.aload_n 0, 1) := by decide +kernel
theorem dX6_refusalOf_51 : decode cX6_refusalOf 51 = .ok (.getfield 12, 3) := by decide +kernel
theorem dX6_refusalOf_54 : decode cX6_refusalOf 54 = .ok (.getfield 96, 3) := by decide +kernel
theorem dX6_refusalOf_57 : decode cX6_refusalOf 57 = .ok (.iload_n 1, 1) := by decide +kernel
theorem dX6_refusalOf_58 : decode cX6_refusalOf 58 = .ok (.baload, 1) := by decide +kernel
theorem dX6_refusalOf_59 : decode cX6_refusalOf 59 = .ok (.ifCond .eq 8, 3) := by decide +kernel
theorem dX6_refusalOf_62 : decode cX6_refusalOf 62 = .ok (.bipush (-2), 2) := by decide +kernel
theorem dX6_refusalOf_64 : decode cX6_refusalOf 64 = .ok (.goto 4, 3) := by decide +kernel
theorem dX6_refusalOf_67 : decode cX6_refusalOf 67 = .ok (.iconst 0, 1) := by decide +kernel
theorem dX6_refusalOf_68 : decode cX6_refusalOf 68 = .ok (.ireturn, 1) := by decide +kernel
theorem dX6_sayersOf_0 : decode cX6_sayersOf 0 = .ok (.iconst 0, 1) := by decide +kernel
theorem dX6_sayersOf_1 : decode cX6_sayersOf 1 = .ok (.istore_n 2, 1) := by decide +kernel
theorem dX6_sayersOf_2 : decode cX6_sayersOf 2 = .ok (.iconst 0, 1) := by decide +kernel
theorem dX6_sayersOf_3 : decode cX6_sayersOf 3 = .ok (.istore_n 3, 1) := by decide +kernel
theorem dX6_sayersOf_4 : decode cX6_sayersOf 4 = .ok (.iload_n 3, 1) := by decide +kernel
theorem dX6_sayersOf_5 : decode cX6_sayersOf 5 = .ok (.aload_n 0, 1) := by decide +kernel
theorem dX6_sayersOf_6 : decode cX6_sayersOf 6 = .ok (.getfield 26, 3) := by decide +kernel
theorem dX6_sayersOf_9 : decode cX6_sayersOf 9 = .ok (.getfield 255, 3) := by decide +kernel
theorem dX6_sayersOf_12 : decode cX6_sayersOf 12 = .ok (.if_icmp .ge 64, 3) := by decide +kernel
theorem dX6_sayersOf_15 : decode cX6_sayersOf 15 = .ok (.aload_n 0, 1) := by decide +kernel
theorem dX6_sayersOf_16 : decode cX6_sayersOf 16 = .ok (.getfield 26, 3) := by decide +kernel
theorem dX6_sayersOf_19 : decode cX6_sayersOf 19 = .ok (.getfield 221, 3) := by decide +kernel
theorem dX6_sayersOf_22 : decode cX6_sayersOf 22 = .ok (.iload_n 3, 1) := by decide +kernel
theorem dX6_sayersOf_23 : decode cX6_sayersOf 23 = .ok (.iaload, 1) := by decide +kernel
theorem dX6_sayersOf_24 : decode cX6_sayersOf 24 = .ok (.istore 4, 2) := by decide +kernel
theorem dX6_sayersOf_26 : decode cX6_sayersOf 26 = .ok (.aload_n 0, 1) := by decide +kernel
theorem dX6_sayersOf_27 : decode cX6_sayersOf 27 = .ok (.getfield 26, 3) := by decide +kernel
theorem dX6_sayersOf_30 : decode cX6_sayersOf 30 = .ok (.getfield 224, 3) := by decide +kernel
theorem dX6_sayersOf_33 : decode cX6_sayersOf 33 = .ok (.iload_n 3, 1) := by decide +kernel
theorem dX6_sayersOf_34 : decode cX6_sayersOf 34 = .ok (.iaload, 1) := by decide +kernel
theorem dX6_sayersOf_35 : decode cX6_sayersOf 35 = .ok (.iload_n 1, 1) := by decide +kernel
theorem dX6_sayersOf_36 : decode cX6_sayersOf 36 = .ok (.if_icmp .ne 34, 3) := by decide +kernel
theorem dX6_sayersOf_39 : decode cX6_sayersOf 39 = .ok (.aload_n 0, 1) := by decide +kernel
theorem dX6_sayersOf_40 : decode cX6_sayersOf 40 = .ok (.getfield 12, 3) := by decide +kernel
theorem dX6_sayersOf_43 : decode cX6_sayersOf 43 = .ok (.getfield 96, 3) := by decide +kernel
theorem dX6_sayersOf_46 : decode cX6_sayersOf 46 = .ok (.iload 4, 2) := by decide +kernel
theorem dX6_sayersOf_48 : decode cX6_sayersOf 48 = .ok (.baload, 1) := by decide +kernel
theorem dX6_sayersOf_49 : decode cX6_sayersOf 49 = .ok (.ifCond .ne 21, 3) := by decide +kernel
theorem dX6_sayersOf_52 : decode cX6_sayersOf 52 = .ok (.aload_n 0, 1) := by decide +kernel
theorem dX6_sayersOf_53 : decode cX6_sayersOf 53 = .ok (.getfield 26, 3) := by decide +kernel
theorem dX6_sayersOf_56 : decode cX6_sayersOf 56 = .ok (.iload_n 3, 1) := by decide +kernel
theorem dX6_sayersOf_57 : decode cX6_sayersOf 57 = .ok (.invokevirtual 234, 3) := by decide +kernel
theorem dX6_sayersOf_60 : decode cX6_sayersOf 60 = .ok (.ifCond .eq 10, 3) := by decide +kernel
theorem dX6_sayersOf_63 : decode cX6_sayersOf 63 = .ok (.iload_n 2, 1) := by decide +kernel
theorem dX6_sayersOf_64 : decode cX6_sayersOf 64 = .ok (.iconst 1, 1) := by decide +kernel
theorem dX6_sayersOf_65 : decode cX6_sayersOf 65 = .ok (.iload 4, 2) := by decide +kernel
theorem dX6_sayersOf_67 : decode cX6_sayersOf 67 = .ok (.ishl, 1) := by decide +kernel
theorem dX6_sayersOf_68 : decode cX6_sayersOf 68 = .ok (.ior, 1) := by decide +kernel
theorem dX6_sayersOf_69 : decode cX6_sayersOf 69 = .ok (.istore_n 2, 1) := by decide +kernel
theorem dX6_sayersOf_70 : decode cX6_sayersOf 70 = .ok (.iinc 3 1, 3) := by decide +kernel
theorem dX6_sayersOf_73 : decode cX6_sayersOf 73 = .ok (.goto (-69), 3) := by decide +kernel
theorem dX6_sayersOf_76 : decode cX6_sayersOf 76 = .ok (.iload_n 2, 1) := by decide +kernel
theorem dX6_sayersOf_77 : decode cX6_sayersOf 77 = .ok (.ireturn, 1) := by decide +kernel
theorem dX6_weighSayers_0 : decode cX6_weighSayers 0 = .ok (.aload_n 0, 1) := by decide +kernel
theorem dX6_weighSayers_1 : decode cX6_weighSayers 1 = .ok (.iload_n 1, 1) := by decide +kernel
theorem dX6_weighSayers_2 : decode cX6_weighSayers 2 = .ok (.invokevirtual 237, 3) := by decide +kernel
theorem dX6_weighSayers_5 : decode cX6_weighSayers 5 = .ok (.istore_n 2, 1) := by decide +kernel
theorem dX6_weighSayers_6 : decode cX6_weighSayers 6 = .ok (.iconst 0, 1) := by decide +kernel
theorem dX6_weighSayers_7 : decode cX6_weighSayers 7 = .ok (.istore_n 3, 1) := by decide +kernel
theorem dX6_weighSayers_8 : decode cX6_weighSayers 8 = .ok (.iconst 0, 1) := by decide +kernel
theorem dX6_weighSayers_9 : decode cX6_weighSayers 9 = .ok (.istore 4, 2) := by decide +kernel
theorem dX6_weighSayers_11 : decode cX6_weighSayers 11 = .ok (.iconst 0, 1) := by decide +kernel
theorem dX6_weighSayers_12 : decode cX6_weighSayers 12 = .ok (.istore 5, 2) := by decide +kernel
theorem dX6_weighSayers_14 : decode cX6_weighSayers 14 = .ok (.aload_n 0, 1) := by decide +kernel
theorem dX6_weighSayers_15 : decode cX6_weighSayers 15 = .ok (.invokevirtual 190, 3) := by decide +kernel
theorem dX6_weighSayers_18 : decode cX6_weighSayers 18 = .ok (.iconst 0, 1) := by decide +kernel
theorem dX6_weighSayers_19 : decode cX6_weighSayers 19 = .ok (.istore 6, 2) := by decide +kernel
theorem dX6_weighSayers_21 : decode cX6_weighSayers 21 = .ok (.iload 6, 2) := by decide +kernel
theorem dX6_weighSayers_23 : decode cX6_weighSayers 23 = .ok (.bipush 12, 2) := by decide +kernel
theorem dX6_weighSayers_25 : decode cX6_weighSayers 25 = .ok (.if_icmp .ge 145, 3) := by decide +kernel
theorem dX6_weighSayers_28 : decode cX6_weighSayers 28 = .ok (.aload_n 0, 1) := by decide +kernel
theorem dX6_weighSayers_29 : decode cX6_weighSayers 29 = .ok (.getfield 57, 3) := by decide +kernel
theorem dX6_weighSayers_32 : decode cX6_weighSayers 32 = .ok (.iload 6, 2) := by decide +kernel
theorem dX6_weighSayers_34 : decode cX6_weighSayers 34 = .ok (.iconst 0, 1) := by decide +kernel
theorem dX6_weighSayers_35 : decode cX6_weighSayers 35 = .ok (.iastore, 1) := by decide +kernel
theorem dX6_weighSayers_36 : decode cX6_weighSayers 36 = .ok (.aload_n 0, 1) := by decide +kernel
theorem dX6_weighSayers_37 : decode cX6_weighSayers 37 = .ok (.getfield 60, 3) := by decide +kernel
theorem dX6_weighSayers_40 : decode cX6_weighSayers 40 = .ok (.iload 6, 2) := by decide +kernel
theorem dX6_weighSayers_42 : decode cX6_weighSayers 42 = .ok (.iconst 0, 1) := by decide +kernel
theorem dX6_weighSayers_43 : decode cX6_weighSayers 43 = .ok (.iastore, 1) := by decide +kernel
theorem dX6_weighSayers_44 : decode cX6_weighSayers 44 = .ok (.iload_n 2, 1) := by decide +kernel
theorem dX6_weighSayers_45 : decode cX6_weighSayers 45 = .ok (.iload 6, 2) := by decide +kernel
theorem dX6_weighSayers_47 : decode cX6_weighSayers 47 = .ok (.invokestatic 162, 3) := by decide +kernel
theorem dX6_weighSayers_50 : decode cX6_weighSayers 50 = .ok (.ifCond .eq 16, 3) := by decide +kernel
theorem dX6_weighSayers_53 : decode cX6_weighSayers 53 = .ok (.aload_n 0, 1) := by decide +kernel
theorem dX6_weighSayers_54 : decode cX6_weighSayers 54 = .ok (.getfield 26, 3) := by decide +kernel
theorem dX6_weighSayers_57 : decode cX6_weighSayers 57 = .ok (.iload 6, 2) := by decide +kernel
theorem dX6_weighSayers_59 : decode cX6_weighSayers 59 = .ok (.iload_n 1, 1) := by decide +kernel
theorem dX6_weighSayers_60 : decode cX6_weighSayers 60 = .ok (.invokevirtual 342, 3) := by decide +kernel
theorem dX6_weighSayers_63 : decode cX6_weighSayers 63 = .ok (.goto 5, 3) := by decide +kernel
theorem dX6_weighSayers_66 : decode cX6_weighSayers 66 = .ok (.bipush (-4), 2) := by decide +kernel
theorem dX6_weighSayers_68 : decode cX6_weighSayers 68 = .ok (.istore 7, 2) := by decide +kernel
theorem dX6_weighSayers_70 : decode cX6_weighSayers 70 = .ok (.iload 7, 2) := by decide +kernel
theorem dX6_weighSayers_72 : decode cX6_weighSayers 72 = .ok (.ifCond .ge 6, 3) := by decide +kernel
theorem dX6_weighSayers_75 : decode cX6_weighSayers 75 = .ok (.goto 89, 3) := by decide +kernel
theorem dX6_weighSayers_78 : decode cX6_weighSayers 78 = .ok (.iload_n 3, 1) := by decide +kernel
theorem dX6_weighSayers_79 : decode cX6_weighSayers 79 = .ok (.iconst 1, 1) := by decide +kernel
theorem dX6_weighSayers_80 : decode cX6_weighSayers 80 = .ok (.iload 6, 2) := by decide +kernel
theorem dX6_weighSayers_82 : decode cX6_weighSayers 82 = .ok (.ishl, 1) := by decide +kernel
theorem dX6_weighSayers_83 : decode cX6_weighSayers 83 = .ok (.ior, 1) := by decide +kernel
theorem dX6_weighSayers_84 : decode cX6_weighSayers 84 = .ok (.istore_n 3, 1) := by decide +kernel
theorem dX6_weighSayers_85 : decode cX6_weighSayers 85 = .ok (.aload_n 0, 1) := by decide +kernel
theorem dX6_weighSayers_86 : decode cX6_weighSayers 86 = .ok (.getfield 40, 3) := by decide +kernel
theorem dX6_weighSayers_89 : decode cX6_weighSayers 89 = .ok (.iload_n 3, 1) := by decide +kernel
theorem dX6_weighSayers_90 : decode cX6_weighSayers 90 = .ok (.invokevirtual 193, 3) := by decide +kernel
theorem dX6_weighSayers_93 : decode cX6_weighSayers 93 = .ok (.istore 8, 2) := by decide +kernel
theorem dX6_weighSayers_95 : decode cX6_weighSayers 95 = .ok (.aload_n 0, 1) := by decide +kernel
theorem dX6_weighSayers_96 : decode cX6_weighSayers 96 = .ok (.getfield 57, 3) := by decide +kernel
theorem dX6_weighSayers_99 : decode cX6_weighSayers 99 = .ok (.iload 6, 2) := by decide +kernel
theorem dX6_weighSayers_101 : decode cX6_weighSayers 101 = .ok (.iload 8, 2) := by decide +kernel
theorem dX6_weighSayers_103 : decode cX6_weighSayers 103 = .ok (.iload 4, 2) := by decide +kernel
theorem dX6_weighSayers_105 : decode cX6_weighSayers 105 = .ok (.isub, 1) := by decide +kernel
theorem dX6_weighSayers_106 : decode cX6_weighSayers 106 = .ok (.aload_n 0, 1) := by decide +kernel
theorem dX6_weighSayers_107 : decode cX6_weighSayers 107 = .ok (.getfield 50, 3) := by decide +kernel
theorem dX6_weighSayers_110 : decode cX6_weighSayers 110 = .ok (.iconst 5, 1) := by decide +kernel
theorem dX6_weighSayers_111 : decode cX6_weighSayers 111 = .ok (.iaload, 1) := by decide +kernel
theorem dX6_weighSayers_112 : decode cX6_weighSayers 112 = .ok (.aload_n 0, 1) := by decide +kernel
theorem dX6_weighSayers_113 : decode cX6_weighSayers 113 = .ok (.getfield 113, 3) := by decide +kernel
theorem dX6_weighSayers_116 : decode cX6_weighSayers 116 = .ok (.aload_n 0, 1) := by decide +kernel
theorem dX6_weighSayers_117 : decode cX6_weighSayers 117 = .ok (.getfield 26, 3) := by decide +kernel
theorem dX6_weighSayers_120 : decode cX6_weighSayers 120 = .ok (.getfield 233, 3) := by decide +kernel
theorem dX6_weighSayers_123 : decode cX6_weighSayers 123 = .ok (.iload 7, 2) := by decide +kernel
theorem dX6_weighSayers_125 : decode cX6_weighSayers 125 = .ok (.iaload, 1) := by decide +kernel
theorem dX6_weighSayers_126 : decode cX6_weighSayers 126 = .ok (.isub, 1) := by decide +kernel
theorem dX6_weighSayers_127 : decode cX6_weighSayers 127 = .ok (.invokestatic 329, 3) := by decide +kernel
theorem dX6_weighSayers_130 : decode cX6_weighSayers 130 = .ok (.iastore, 1) := by decide +kernel
theorem dX6_weighSayers_131 : decode cX6_weighSayers 131 = .ok (.aload_n 0, 1) := by decide +kernel
theorem dX6_weighSayers_132 : decode cX6_weighSayers 132 = .ok (.getfield 60, 3) := by decide +kernel
theorem dX6_weighSayers_135 : decode cX6_weighSayers 135 = .ok (.iload 6, 2) := by decide +kernel
theorem dX6_weighSayers_137 : decode cX6_weighSayers 137 = .ok (.aload_n 0, 1) := by decide +kernel
theorem dX6_weighSayers_138 : decode cX6_weighSayers 138 = .ok (.getfield 26, 3) := by decide +kernel
theorem dX6_weighSayers_141 : decode cX6_weighSayers 141 = .ok (.getfield 230, 3) := by decide +kernel
theorem dX6_weighSayers_144 : decode cX6_weighSayers 144 = .ok (.iload 7, 2) := by decide +kernel
theorem dX6_weighSayers_146 : decode cX6_weighSayers 146 = .ok (.iaload, 1) := by decide +kernel
theorem dX6_weighSayers_147 : decode cX6_weighSayers 147 = .ok (.iastore, 1) := by decide +kernel
theorem dX6_weighSayers_148 : decode cX6_weighSayers 148 = .ok (.iload 8, 2) := by decide +kernel
theorem dX6_weighSayers_150 : decode cX6_weighSayers 150 = .ok (.istore 4, 2) := by decide +kernel
theorem dX6_weighSayers_152 : decode cX6_weighSayers 152 = .ok (.iload 5, 2) := by decide +kernel
theorem dX6_weighSayers_154 : decode cX6_weighSayers 154 = .ok (.aload_n 0, 1) := by decide +kernel
theorem dX6_weighSayers_155 : decode cX6_weighSayers 155 = .ok (.getfield 57, 3) := by decide +kernel
theorem dX6_weighSayers_158 : decode cX6_weighSayers 158 = .ok (.iload 6, 2) := by decide +kernel
theorem dX6_weighSayers_160 : decode cX6_weighSayers 160 = .ok (.iaload, 1) := by decide +kernel
theorem dX6_weighSayers_161 : decode cX6_weighSayers 161 = .ok (.iadd, 1) := by decide +kernel
theorem dX6_weighSayers_162 : decode cX6_weighSayers 162 = .ok (.istore 5, 2) := by decide +kernel
theorem dX6_weighSayers_164 : decode cX6_weighSayers 164 = .ok (.iinc 6 1, 3) := by decide +kernel
theorem dX6_weighSayers_167 : decode cX6_weighSayers 167 = .ok (.goto (-146), 3) := by decide +kernel
theorem dX6_weighSayers_170 : decode cX6_weighSayers 170 = .ok (.iload 5, 2) := by decide +kernel
theorem dX6_weighSayers_172 : decode cX6_weighSayers 172 = .ok (.ireturn, 1) := by decide +kernel
theorem dX6_summedMarks_0 : decode cX6_summedMarks 0 = .ok (.iconst 0, 1) := by decide +kernel
theorem dX6_summedMarks_1 : decode cX6_summedMarks 1 = .ok (.istore_n 1, 1) := by decide +kernel
theorem dX6_summedMarks_2 : decode cX6_summedMarks 2 = .ok (.iconst 0, 1) := by decide +kernel
theorem dX6_summedMarks_3 : decode cX6_summedMarks 3 = .ok (.istore_n 2, 1) := by decide +kernel
theorem dX6_summedMarks_4 : decode cX6_summedMarks 4 = .ok (.iload_n 2, 1) := by decide +kernel
theorem dX6_summedMarks_5 : decode cX6_summedMarks 5 = .ok (.bipush 12, 2) := by decide +kernel
theorem dX6_summedMarks_7 : decode cX6_summedMarks 7 = .ok (.if_icmp .ge 25, 3) := by decide +kernel
theorem dX6_summedMarks_10 : decode cX6_summedMarks 10 = .ok (.iload_n 1, 1) := by decide +kernel
theorem dX6_summedMarks_11 : decode cX6_summedMarks 11 = .ok (.aload_n 0, 1) := by decide +kernel
theorem dX6_summedMarks_12 : decode cX6_summedMarks 12 = .ok (.getfield 57, 3) := by decide +kernel
theorem dX6_summedMarks_15 : decode cX6_summedMarks 15 = .ok (.iload_n 2, 1) := by decide +kernel
theorem dX6_summedMarks_16 : decode cX6_summedMarks 16 = .ok (.iaload, 1) := by decide +kernel
theorem dX6_summedMarks_17 : decode cX6_summedMarks 17 = .ok (.aload_n 0, 1) := by decide +kernel
theorem dX6_summedMarks_18 : decode cX6_summedMarks 18 = .ok (.getfield 60, 3) := by decide +kernel
theorem dX6_summedMarks_21 : decode cX6_summedMarks 21 = .ok (.iload_n 2, 1) := by decide +kernel
theorem dX6_summedMarks_22 : decode cX6_summedMarks 22 = .ok (.iaload, 1) := by decide +kernel
theorem dX6_summedMarks_23 : decode cX6_summedMarks 23 = .ok (.imul, 1) := by decide +kernel
theorem dX6_summedMarks_24 : decode cX6_summedMarks 24 = .ok (.iadd, 1) := by decide +kernel
theorem dX6_summedMarks_25 : decode cX6_summedMarks 25 = .ok (.istore_n 1, 1) := by decide +kernel
theorem dX6_summedMarks_26 : decode cX6_summedMarks 26 = .ok (.iinc 2 1, 3) := by decide +kernel
theorem dX6_summedMarks_29 : decode cX6_summedMarks 29 = .ok (.goto (-25), 3) := by decide +kernel
theorem dX6_summedMarks_32 : decode cX6_summedMarks 32 = .ok (.iload_n 1, 1) := by decide +kernel
theorem dX6_summedMarks_33 : decode cX6_summedMarks 33 = .ok (.ireturn, 1) := by decide +kernel
theorem dX6_greatestStakes_0 : decode cX6_greatestStakes 0 = .ok (.iconst 0, 1) := by decide +kernel
theorem dX6_greatestStakes_1 : decode cX6_greatestStakes 1 = .ok (.istore_n 3, 1) := by decide +kernel
theorem dX6_greatestStakes_2 : decode cX6_greatestStakes 2 = .ok (.iload_n 3, 1) := by decide +kernel
theorem dX6_greatestStakes_3 : decode cX6_greatestStakes 3 = .ok (.bipush 12, 2) := by decide +kernel
theorem dX6_greatestStakes_5 : decode cX6_greatestStakes 5 = .ok (.if_icmp .ge 44, 3) := by decide +kernel
theorem dX6_greatestStakes_8 : decode cX6_greatestStakes 8 = .ok (.aload_n 0, 1) := by decide +kernel
theorem dX6_greatestStakes_9 : decode cX6_greatestStakes 9 = .ok (.getfield 63, 3) := by decide +kernel
theorem dX6_greatestStakes_12 : decode cX6_greatestStakes 12 = .ok (.iload_n 3, 1) := by decide +kernel
theorem dX6_greatestStakes_13 : decode cX6_greatestStakes 13 = .ok (.aload_n 0, 1) := by decide +kernel
theorem dX6_greatestStakes_14 : decode cX6_greatestStakes 14 = .ok (.getfield 57, 3) := by decide +kernel
theorem dX6_greatestStakes_17 : decode cX6_greatestStakes 17 = .ok (.iload_n 3, 1) := by decide +kernel
theorem dX6_greatestStakes_18 : decode cX6_greatestStakes 18 = .ok (.iaload, 1) := by decide +kernel
theorem dX6_greatestStakes_19 : decode cX6_greatestStakes 19 = .ok (.iload_n 2, 1) := by decide +kernel
theorem dX6_greatestStakes_20 : decode cX6_greatestStakes 20 = .ok (.ifCond .eq 15, 3) := by decide +kernel
theorem dX6_greatestStakes_23 : decode cX6_greatestStakes 23 = .ok (.bipush 10, 2) := by decide +kernel
theorem dX6_greatestStakes_25 : decode cX6_greatestStakes 25 = .ok (.aload_n 0, 1) := by decide +kernel
theorem dX6_greatestStakes_26 : decode cX6_greatestStakes 26 = .ok (.getfield 60, 3) := by decide +kernel
theorem dX6_greatestStakes_29 : decode cX6_greatestStakes 29 = .ok (.iload_n 3, 1) := by decide +kernel
theorem dX6_greatestStakes_30 : decode cX6_greatestStakes 30 = .ok (.iaload, 1) := by decide +kernel
theorem dX6_greatestStakes_31 : decode cX6_greatestStakes 31 = .ok (.isub, 1) := by decide +kernel
theorem dX6_greatestStakes_32 : decode cX6_greatestStakes 32 = .ok (.goto 9, 3) := by decide +kernel
theorem dX6_greatestStakes_35 : decode cX6_greatestStakes 35 = .ok (.aload_n 0, 1) := by decide +kernel
theorem dX6_greatestStakes_36 : decode cX6_greatestStakes 36 = .ok (.getfield 60, 3) := by decide +kernel
theorem dX6_greatestStakes_39 : decode cX6_greatestStakes 39 = .ok (.iload_n 3, 1) := by decide +kernel
theorem dX6_greatestStakes_40 : decode cX6_greatestStakes 40 = .ok (.iaload, 1) := by decide +kernel
theorem dX6_greatestStakes_41 : decode cX6_greatestStakes 41 = .ok (.imul, 1) := by decide +kernel
theorem dX6_greatestStakes_42 : decode cX6_greatestStakes 42 = .ok (.iastore, 1) := by decide +kernel
theorem dX6_greatestStakes_43 : decode cX6_greatestStakes 43 = .ok (.iinc 3 1, 3) := by decide +kernel
theorem dX6_greatestStakes_46 : decode cX6_greatestStakes 46 = .ok (.goto (-44), 3) := by decide +kernel
theorem dX6_greatestStakes_49 : decode cX6_greatestStakes 49 = .ok (.iconst 0, 1) := by decide +kernel
theorem dX6_greatestStakes_50 : decode cX6_greatestStakes 50 = .ok (.istore_n 3, 1) := by decide +kernel
theorem dX6_greatestStakes_51 : decode cX6_greatestStakes 51 = .ok (.iconst 0, 1) := by decide +kernel
theorem dX6_greatestStakes_52 : decode cX6_greatestStakes 52 = .ok (.istore 4, 2) := by decide +kernel
theorem dX6_greatestStakes_54 : decode cX6_greatestStakes 54 = .ok (.iload 4, 2) := by decide +kernel
theorem dX6_greatestStakes_56 : decode cX6_greatestStakes 56 = .ok (.iload_n 1, 1) := by decide +kernel
theorem dX6_greatestStakes_57 : decode cX6_greatestStakes 57 = .ok (.if_icmp .ge 72, 3) := by decide +kernel
theorem dX6_greatestStakes_60 : decode cX6_greatestStakes 60 = .ok (.iconst 0, 1) := by decide +kernel
theorem dX6_greatestStakes_61 : decode cX6_greatestStakes 61 = .ok (.istore 5, 2) := by decide +kernel
theorem dX6_greatestStakes_63 : decode cX6_greatestStakes 63 = .ok (.iconst 1, 1) := by decide +kernel
theorem dX6_greatestStakes_64 : decode cX6_greatestStakes 64 = .ok (.istore 6, 2) := by decide +kernel
theorem dX6_greatestStakes_66 : decode cX6_greatestStakes 66 = .ok (.iload 6, 2) := by decide +kernel
theorem dX6_greatestStakes_68 : decode cX6_greatestStakes 68 = .ok (.bipush 12, 2) := by decide +kernel
theorem dX6_greatestStakes_70 : decode cX6_greatestStakes 70 = .ok (.if_icmp .ge 35, 3) := by decide +kernel
theorem dX6_greatestStakes_73 : decode cX6_greatestStakes 73 = .ok (.aload_n 0, 1) := by decide +kernel
theorem dX6_greatestStakes_74 : decode cX6_greatestStakes 74 = .ok (.getfield 63, 3) := by decide +kernel
theorem dX6_greatestStakes_77 : decode cX6_greatestStakes 77 = .ok (.iload 6, 2) := by decide +kernel
theorem dX6_greatestStakes_79 : decode cX6_greatestStakes 79 = .ok (.iaload, 1) := by decide +kernel
theorem dX6_greatestStakes_80 : decode cX6_greatestStakes 80 = .ok (.aload_n 0, 1) := by decide +kernel
theorem dX6_greatestStakes_81 : decode cX6_greatestStakes 81 = .ok (.getfield 63, 3) := by decide +kernel
theorem dX6_greatestStakes_84 : decode cX6_greatestStakes 84 = .ok (.iload 5, 2) := by decide +kernel
theorem dX6_greatestStakes_86 : decode cX6_greatestStakes 86 = .ok (.iaload, 1) := by decide +kernel
theorem dX6_greatestStakes_87 : decode cX6_greatestStakes 87 = .ok (.if_icmp .le 8, 3) := by decide +kernel
theorem dX6_greatestStakes_90 : decode cX6_greatestStakes 90 = .ok (.iload 6, 2) := by decide +kernel
theorem dX6_greatestStakes_92 : decode cX6_greatestStakes 92 = .ok (.goto 5, 3) := by decide +kernel
theorem dX6_greatestStakes_95 : decode cX6_greatestStakes 95 = .ok (.iload 5, 2) := by decide +kernel
theorem dX6_greatestStakes_97 : decode cX6_greatestStakes 97 = .ok (.istore 5, 2) := by decide +kernel
theorem dX6_greatestStakes_99 : decode cX6_greatestStakes 99 = .ok (.iinc 6 1, 3) := by decide +kernel
theorem dX6_greatestStakes_102 : decode cX6_greatestStakes 102 = .ok (.goto (-36), 3) := by decide +kernel
theorem dX6_greatestStakes_105 : decode cX6_greatestStakes 105 = .ok (.iload_n 3, 1) := by decide +kernel
theorem dX6_greatestStakes_106 : decode cX6_greatestStakes 106 = .ok (.aload_n 0, 1) := by decide +kernel
theorem dX6_greatestStakes_107 : decode cX6_greatestStakes 107 = .ok (.getfield 63, 3) := by decide +kernel
theorem dX6_greatestStakes_110 : decode cX6_greatestStakes 110 = .ok (.iload 5, 2) := by decide +kernel
theorem dX6_greatestStakes_112 : decode cX6_greatestStakes 112 = .ok (.iaload, 1) := by decide +kernel
theorem dX6_greatestStakes_113 : decode cX6_greatestStakes 113 = .ok (.iadd, 1) := by decide +kernel
theorem dX6_greatestStakes_114 : decode cX6_greatestStakes 114 = .ok (.istore_n 3, 1) := by decide +kernel
theorem dX6_greatestStakes_115 : decode cX6_greatestStakes 115 = .ok (.aload_n 0, 1) := by decide +kernel
theorem dX6_greatestStakes_116 : decode cX6_greatestStakes 116 = .ok (.getfield 63, 3) := by decide +kernel
theorem dX6_greatestStakes_119 : decode cX6_greatestStakes 119 = .ok (.iload 5, 2) := by decide +kernel
theorem dX6_greatestStakes_121 : decode cX6_greatestStakes 121 = .ok (.iconst 0, 1) := by decide +kernel
theorem dX6_greatestStakes_122 : decode cX6_greatestStakes 122 = .ok (.iastore, 1) := by decide +kernel
theorem dX6_greatestStakes_123 : decode cX6_greatestStakes 123 = .ok (.iinc 4 1, 3) := by decide +kernel
theorem dX6_greatestStakes_126 : decode cX6_greatestStakes 126 = .ok (.goto (-72), 3) := by decide +kernel
theorem dX6_greatestStakes_129 : decode cX6_greatestStakes 129 = .ok (.iload_n 3, 1) := by decide +kernel
theorem dX6_greatestStakes_130 : decode cX6_greatestStakes 130 = .ok (.ireturn, 1) := by decide +kernel
theorem dX6_inLowest_0 : decode cX6_inLowest 0 = .ok (.lload_n 0, 1) := by decide +kernel
theorem dX6_inLowest_1 : decode cX6_inLowest 1 = .ok (.lload_n 2, 1) := by decide +kernel
theorem dX6_inLowest_2 : decode cX6_inLowest 2 = .ok (.invokestatic 345, 3) := by decide +kernel
theorem dX6_inLowest_5 : decode cX6_inLowest 5 = .ok (.lstore 5, 2) := by decide +kernel
theorem dX6_inLowest_7 : decode cX6_inLowest 7 = .ok (.iload 4, 2) := by decide +kernel
theorem dX6_inLowest_9 : decode cX6_inLowest 9 = .ok (.ifCond .eq 10, 3) := by decide +kernel
theorem dX6_inLowest_12 : decode cX6_inLowest 12 = .ok (.lload_n 0, 1) := by decide +kernel
theorem dX6_inLowest_13 : decode cX6_inLowest 13 = .ok (.lload 5, 2) := by decide +kernel
theorem dX6_inLowest_15 : decode cX6_inLowest 15 = .ok (.ldiv, 1) := by decide +kernel
theorem dX6_inLowest_16 : decode cX6_inLowest 16 = .ok (.goto 7, 3) := by decide +kernel
theorem dX6_inLowest_19 : decode cX6_inLowest 19 = .ok (.lload_n 2, 1) := by decide +kernel
theorem dX6_inLowest_20 : decode cX6_inLowest 20 = .ok (.lload 5, 2) := by decide +kernel
theorem dX6_inLowest_22 : decode cX6_inLowest 22 = .ok (.ldiv, 1) := by decide +kernel
theorem dX6_inLowest_23 : decode cX6_inLowest 23 = .ok (.lreturn, 1) := by decide +kernel
theorem dX6_commonPart_0 : decode cX6_commonPart 0 = .ok (.lload_n 0, 1) := by decide +kernel
theorem dX6_commonPart_1 : decode cX6_commonPart 1 = .ok (.lstore 4, 2) := by decide +kernel
theorem dX6_commonPart_3 : decode cX6_commonPart 3 = .ok (.lload_n 2, 1) := by decide +kernel
theorem dX6_commonPart_4 : decode cX6_commonPart 4 = .ok (.lstore 6, 2) := by decide +kernel
theorem dX6_commonPart_6 : decode cX6_commonPart 6 = .ok (.iconst 0, 1) := by decide +kernel
theorem dX6_commonPart_7 : decode cX6_commonPart 7 = .ok (.istore 8, 2) := by decide +kernel
theorem dX6_commonPart_9 : decode cX6_commonPart 9 = .ok (.iload 8, 2) := by decide +kernel
theorem dX6_commonPart_11 : decode cX6_commonPart 11 = .ok (.sipush 200, 3) := by decide +kernel
theorem dX6_commonPart_14 : decode cX6_commonPart 14 = .ok (.if_icmp .ge 31, 3) := by decide +kernel
theorem dX6_commonPart_17 : decode cX6_commonPart 17 = .ok (.lload 6, 2) := by decide +kernel
theorem dX6_commonPart_19 : decode cX6_commonPart 19 = .ok (.lconst 0, 1) := by decide +kernel
theorem dX6_commonPart_20 : decode cX6_commonPart 20 = .ok (.lcmp, 1) := by decide +kernel
theorem dX6_commonPart_21 : decode cX6_commonPart 21 = .ok (.ifCond .eq 24, 3) := by decide +kernel
theorem dX6_commonPart_24 : decode cX6_commonPart 24 = .ok (.lload 4, 2) := by decide +kernel
theorem dX6_commonPart_26 : decode cX6_commonPart 26 = .ok (.lload 6, 2) := by decide +kernel
theorem dX6_commonPart_28 : decode cX6_commonPart 28 = .ok (.lrem, 1) := by decide +kernel
theorem dX6_commonPart_29 : decode cX6_commonPart 29 = .ok (.lstore 9, 2) := by decide +kernel
theorem dX6_commonPart_31 : decode cX6_commonPart 31 = .ok (.lload 6, 2) := by decide +kernel
theorem dX6_commonPart_33 : decode cX6_commonPart 33 = .ok (.lstore 4, 2) := by decide +kernel
theorem dX6_commonPart_35 : decode cX6_commonPart 35 = .ok (.lload 9, 2) := by decide +kernel
theorem dX6_commonPart_37 : decode cX6_commonPart 37 = .ok (.lstore 6, 2) := by decide +kernel
theorem dX6_commonPart_39 : decode cX6_commonPart 39 = .ok (.iinc 8 1, 3) := by decide +kernel
theorem dX6_commonPart_42 : decode cX6_commonPart 42 = .ok (.goto (-33), 3) := by decide +kernel
theorem dX6_commonPart_45 : decode cX6_commonPart 45 = .ok (.lconst 1, 1) := by decide +kernel
theorem dX6_commonPart_46 : decode cX6_commonPart 46 = .ok (.lload 4, 2) := by decide +kernel
theorem dX6_commonPart_48 : decode cX6_commonPart 48 = .ok (.invokestatic 349, 3) := by decide +kernel
theorem dX6_commonPart_51 : decode cX6_commonPart 51 = .ok (.lreturn, 1) := by decide +kernel
theorem dX6_choose_0 : decode cX6_choose 0 = .ok (.iload_n 1, 1) := by decide +kernel
theorem dX6_choose_1 : decode cX6_choose 1 = .ok (.ifCond .lt 8, 3) := by decide +kernel
theorem dX6_choose_4 : decode cX6_choose 4 = .ok (.iload_n 1, 1) := by decide +kernel
theorem dX6_choose_5 : decode cX6_choose 5 = .ok (.iload_n 0, 1) := by decide +kernel
theorem dX6_choose_6 : decode cX6_choose 6 = .ok (.if_icmp .le 5, 3) := by decide +kernel
theorem dX6_choose_9 : decode cX6_choose 9 = .ok (.lconst 0, 1) := by decide +kernel
theorem dX6_choose_10 : decode cX6_choose 10 = .ok (.lreturn, 1) := by decide +kernel
theorem dX6_choose_11 : decode cX6_choose 11 = .ok (.lconst 1, 1) := by decide +kernel
theorem dX6_choose_12 : decode cX6_choose 12 = .ok (.lstore_n 2, 1) := by decide +kernel
theorem dX6_choose_13 : decode cX6_choose 13 = .ok (.iconst 0, 1) := by decide +kernel
theorem dX6_choose_14 : decode cX6_choose 14 = .ok (.istore 4, 2) := by decide +kernel
theorem dX6_choose_16 : decode cX6_choose 16 = .ok (.iload 4, 2) := by decide +kernel
theorem dX6_choose_18 : decode cX6_choose 18 = .ok (.iload_n 1, 1) := by decide +kernel
theorem dX6_choose_19 : decode cX6_choose 19 = .ok (.if_icmp .ge 23, 3) := by decide +kernel
theorem dX6_choose_22 : decode cX6_choose 22 = .ok (.lload_n 2, 1) := by decide +kernel
theorem dX6_choose_23 : decode cX6_choose 23 = .ok (.iload_n 0, 1) := by decide +kernel
theorem dX6_choose_24 : decode cX6_choose 24 = .ok (.iload 4, 2) := by decide +kernel
theorem dX6_choose_26 : decode cX6_choose 26 = .ok (.isub, 1) := by decide +kernel
theorem dX6_choose_27 : decode cX6_choose 27 = .ok (.i2l, 1) := by decide +kernel
theorem dX6_choose_28 : decode cX6_choose 28 = .ok (.lmul, 1) := by decide +kernel
theorem dX6_choose_29 : decode cX6_choose 29 = .ok (.iload 4, 2) := by decide +kernel
theorem dX6_choose_31 : decode cX6_choose 31 = .ok (.iconst 1, 1) := by decide +kernel
theorem dX6_choose_32 : decode cX6_choose 32 = .ok (.iadd, 1) := by decide +kernel
theorem dX6_choose_33 : decode cX6_choose 33 = .ok (.i2l, 1) := by decide +kernel
theorem dX6_choose_34 : decode cX6_choose 34 = .ok (.ldiv, 1) := by decide +kernel
theorem dX6_choose_35 : decode cX6_choose 35 = .ok (.lstore_n 2, 1) := by decide +kernel
theorem dX6_choose_36 : decode cX6_choose 36 = .ok (.iinc 4 1, 3) := by decide +kernel
theorem dX6_choose_39 : decode cX6_choose 39 = .ok (.goto (-23), 3) := by decide +kernel
theorem dX6_choose_42 : decode cX6_choose 42 = .ok (.lload_n 2, 1) := by decide +kernel
theorem dX6_choose_43 : decode cX6_choose 43 = .ok (.lreturn, 1) := by decide +kernel
theorem dX6_wordsWithin_0 : decode cX6_wordsWithin 0 = .ok (.iconst 0, 1) := by decide +kernel
theorem dX6_wordsWithin_1 : decode cX6_wordsWithin 1 = .ok (.istore_n 3, 1) := by decide +kernel
theorem dX6_wordsWithin_2 : decode cX6_wordsWithin 2 = .ok (.iconst 0, 1) := by decide +kernel
theorem dX6_wordsWithin_3 : decode cX6_wordsWithin 3 = .ok (.istore 4, 2) := by decide +kernel
theorem dX6_wordsWithin_5 : decode cX6_wordsWithin 5 = .ok (.iload 4, 2) := by decide +kernel
theorem dX6_wordsWithin_7 : decode cX6_wordsWithin 7 = .ok (.aload_n 0, 1) := by decide +kernel
theorem dX6_wordsWithin_8 : decode cX6_wordsWithin 8 = .ok (.getfield 26, 3) := by decide +kernel
theorem dX6_wordsWithin_11 : decode cX6_wordsWithin 11 = .ok (.getfield 255, 3) := by decide +kernel
theorem dX6_wordsWithin_14 : decode cX6_wordsWithin 14 = .ok (.if_icmp .ge 73, 3) := by decide +kernel
theorem dX6_wordsWithin_17 : decode cX6_wordsWithin 17 = .ok (.aload_n 0, 1) := by decide +kernel
theorem dX6_wordsWithin_18 : decode cX6_wordsWithin 18 = .ok (.getfield 26, 3) := by decide +kernel
theorem dX6_wordsWithin_21 : decode cX6_wordsWithin 21 = .ok (.getfield 351, 3) := by decide +kernel
theorem dX6_wordsWithin_24 : decode cX6_wordsWithin 24 = .ok (.iload 4, 2) := by decide +kernel
theorem dX6_wordsWithin_26 : decode cX6_wordsWithin 26 = .ok (.iaload, 1) := by decide +kernel
theorem dX6_wordsWithin_27 : decode cX6_wordsWithin 27 = .ok (.iload_n 1, 1) := by decide +kernel
theorem dX6_wordsWithin_28 : decode cX6_wordsWithin 28 = .ok (.iconst (-1), 1) := by decide +kernel
theorem dX6_wordsWithin_29 : decode cX6_wordsWithin 29 = .ok (.ixor, 1) := by decide +kernel
theorem dX6_wordsWithin_30 : decode cX6_wordsWithin 30 = .ok (.iand, 1) := by decide +kernel
theorem dX6_wordsWithin_31 : decode cX6_wordsWithin 31 = .ok (.ifCond .ne 7, 3) := by decide +kernel
theorem dX6_wordsWithin_34 : decode cX6_wordsWithin 34 = .ok (.iconst 1, 1) := by decide +kernel
theorem dX6_wordsWithin_35 : decode cX6_wordsWithin 35 = .ok (.goto 4, 3) := by decide +kernel
theorem dX6_wordsWithin_38 : decode cX6_wordsWithin 38 = .ok (.iconst 0, 1) := by decide +kernel
theorem dX6_wordsWithin_39 : decode cX6_wordsWithin 39 = .ok (.istore 5, 2) := by decide +kernel
theorem dX6_wordsWithin_41 : decode cX6_wordsWithin 41 = .ok (.iload_n 3, 1) := by decide +kernel
theorem dX6_wordsWithin_42 : decode cX6_wordsWithin 42 = .ok (.iload 5, 2) := by decide +kernel
theorem dX6_wordsWithin_44 : decode cX6_wordsWithin 44 = .ok (.ifCond .eq 31, 3) := by decide +kernel
theorem dX6_wordsWithin_47 : decode cX6_wordsWithin 47 = .ok (.iload_n 2, 1) := by decide +kernel
theorem dX6_wordsWithin_48 : decode cX6_wordsWithin 48 = .ok (.ifCond .eq 23, 3) := by decide +kernel
theorem dX6_wordsWithin_51 : decode cX6_wordsWithin 51 = .ok (.aload_n 0, 1) := by decide +kernel
theorem dX6_wordsWithin_52 : decode cX6_wordsWithin 52 = .ok (.getfield 26, 3) := by decide +kernel
theorem dX6_wordsWithin_55 : decode cX6_wordsWithin 55 = .ok (.getfield 230, 3) := by decide +kernel
theorem dX6_wordsWithin_58 : decode cX6_wordsWithin 58 = .ok (.iload 4, 2) := by decide +kernel
theorem dX6_wordsWithin_60 : decode cX6_wordsWithin 60 = .ok (.iaload, 1) := by decide +kernel
theorem dX6_wordsWithin_61 : decode cX6_wordsWithin 61 = .ok (.aload_n 0, 1) := by decide +kernel
theorem dX6_wordsWithin_62 : decode cX6_wordsWithin 62 = .ok (.getfield 50, 3) := by decide +kernel
theorem dX6_wordsWithin_65 : decode cX6_wordsWithin 65 = .ok (.bipush 9, 2) := by decide +kernel
theorem dX6_wordsWithin_67 : decode cX6_wordsWithin 67 = .ok (.iaload, 1) := by decide +kernel
theorem dX6_wordsWithin_68 : decode cX6_wordsWithin 68 = .ok (.if_icmp .lt 7, 3) := by decide +kernel
theorem dX6_wordsWithin_71 : decode cX6_wordsWithin 71 = .ok (.iconst 1, 1) := by decide +kernel
theorem dX6_wordsWithin_72 : decode cX6_wordsWithin 72 = .ok (.goto 4, 3) := by decide +kernel
theorem dX6_wordsWithin_75 : decode cX6_wordsWithin 75 = .ok (.iconst 0, 1) := by decide +kernel
theorem dX6_wordsWithin_76 : decode cX6_wordsWithin 76 = .ok (.invokestatic 92, 3) := by decide +kernel
theorem dX6_wordsWithin_79 : decode cX6_wordsWithin 79 = .ok (.iadd, 1) := by decide +kernel
theorem dX6_wordsWithin_80 : decode cX6_wordsWithin 80 = .ok (.istore_n 3, 1) := by decide +kernel
theorem dX6_wordsWithin_81 : decode cX6_wordsWithin 81 = .ok (.iinc 4 1, 3) := by decide +kernel
theorem dX6_wordsWithin_84 : decode cX6_wordsWithin 84 = .ok (.goto (-79), 3) := by decide +kernel
theorem dX6_wordsWithin_87 : decode cX6_wordsWithin 87 = .ok (.iload_n 3, 1) := by decide +kernel
theorem dX6_wordsWithin_88 : decode cX6_wordsWithin 88 = .ok (.ireturn, 1) := by decide +kernel
theorem dX6_waysOf_0 : decode cX6_waysOf 0 = .ok (.aload_n 0, 1) := by decide +kernel
theorem dX6_waysOf_1 : decode cX6_waysOf 1 = .ok (.iload_n 1, 1) := by decide +kernel
theorem dX6_waysOf_2 : decode cX6_waysOf 2 = .ok (.iconst 0, 1) := by decide +kernel
theorem dX6_waysOf_3 : decode cX6_waysOf 3 = .ok (.invokevirtual 256, 3) := by decide +kernel
theorem dX6_waysOf_6 : decode cX6_waysOf 6 = .ok (.istore_n 3, 1) := by decide +kernel
theorem dX6_waysOf_7 : decode cX6_waysOf 7 = .ok (.aload_n 0, 1) := by decide +kernel
theorem dX6_waysOf_8 : decode cX6_waysOf 8 = .ok (.getfield 26, 3) := by decide +kernel
theorem dX6_waysOf_11 : decode cX6_waysOf 11 = .ok (.getfield 255, 3) := by decide +kernel
theorem dX6_waysOf_14 : decode cX6_waysOf 14 = .ok (.iload_n 3, 1) := by decide +kernel
theorem dX6_waysOf_15 : decode cX6_waysOf 15 = .ok (.isub, 1) := by decide +kernel
theorem dX6_waysOf_16 : decode cX6_waysOf 16 = .ok (.istore 4, 2) := by decide +kernel
theorem dX6_waysOf_18 : decode cX6_waysOf 18 = .ok (.lconst 0, 1) := by decide +kernel
theorem dX6_waysOf_19 : decode cX6_waysOf 19 = .ok (.lstore 5, 2) := by decide +kernel
theorem dX6_waysOf_21 : decode cX6_waysOf 21 = .ok (.aload_n 0, 1) := by decide +kernel
theorem dX6_waysOf_22 : decode cX6_waysOf 22 = .ok (.iload_n 1, 1) := by decide +kernel
theorem dX6_waysOf_23 : decode cX6_waysOf 23 = .ok (.iconst 1, 1) := by decide +kernel
theorem dX6_waysOf_24 : decode cX6_waysOf 24 = .ok (.invokevirtual 256, 3) := by decide +kernel
theorem dX6_waysOf_27 : decode cX6_waysOf 27 = .ok (.istore 7, 2) := by decide +kernel
theorem dX6_waysOf_29 : decode cX6_waysOf 29 = .ok (.iload 7, 2) := by decide +kernel
theorem dX6_waysOf_31 : decode cX6_waysOf 31 = .ok (.iload_n 3, 1) := by decide +kernel
theorem dX6_waysOf_32 : decode cX6_waysOf 32 = .ok (.if_icmp .gt 36, 3) := by decide +kernel
theorem dX6_waysOf_35 : decode cX6_waysOf 35 = .ok (.iload 7, 2) := by decide +kernel
theorem dX6_waysOf_37 : decode cX6_waysOf 37 = .ok (.iload_n 2, 1) := by decide +kernel
theorem dX6_waysOf_38 : decode cX6_waysOf 38 = .ok (.if_icmp .gt 30, 3) := by decide +kernel
theorem dX6_waysOf_41 : decode cX6_waysOf 41 = .ok (.lload 5, 2) := by decide +kernel
theorem dX6_waysOf_43 : decode cX6_waysOf 43 = .ok (.iload_n 3, 1) := by decide +kernel
theorem dX6_waysOf_44 : decode cX6_waysOf 44 = .ok (.iload 7, 2) := by decide +kernel
theorem dX6_waysOf_46 : decode cX6_waysOf 46 = .ok (.invokestatic 265, 3) := by decide +kernel
theorem dX6_waysOf_49 : decode cX6_waysOf 49 = .ok (.iload 4, 2) := by decide +kernel
theorem dX6_waysOf_51 : decode cX6_waysOf 51 = .ok (.iload_n 2, 1) := by decide +kernel
theorem dX6_waysOf_52 : decode cX6_waysOf 52 = .ok (.iload 7, 2) := by decide +kernel
theorem dX6_waysOf_54 : decode cX6_waysOf 54 = .ok (.isub, 1) := by decide +kernel
theorem dX6_waysOf_55 : decode cX6_waysOf 55 = .ok (.invokestatic 265, 3) := by decide +kernel
theorem dX6_waysOf_58 : decode cX6_waysOf 58 = .ok (.lmul, 1) := by decide +kernel
theorem dX6_waysOf_59 : decode cX6_waysOf 59 = .ok (.ladd, 1) := by decide +kernel
theorem dX6_waysOf_60 : decode cX6_waysOf 60 = .ok (.lstore 5, 2) := by decide +kernel
theorem dX6_waysOf_62 : decode cX6_waysOf 62 = .ok (.iinc 7 1, 3) := by decide +kernel
theorem dX6_waysOf_65 : decode cX6_waysOf 65 = .ok (.goto (-36), 3) := by decide +kernel
theorem dX6_waysOf_68 : decode cX6_waysOf 68 = .ok (.lload 5, 2) := by decide +kernel
theorem dX6_waysOf_70 : decode cX6_waysOf 70 = .ok (.lreturn, 1) := by decide +kernel
theorem dX6_boughtRoom_0 : decode cX6_boughtRoom 0 = .ok (.iload_n 1, 1) := by decide +kernel
theorem dX6_boughtRoom_1 : decode cX6_boughtRoom 1 = .ok (.aload_n 0, 1) := by decide +kernel
theorem dX6_boughtRoom_2 : decode cX6_boughtRoom 2 = .ok (.getfield 50, 3) := by decide +kernel
theorem dX6_boughtRoom_5 : decode cX6_boughtRoom 5 = .ok (.iconst 3, 1) := by decide +kernel
theorem dX6_boughtRoom_6 : decode cX6_boughtRoom 6 = .ok (.iaload, 1) := by decide +kernel
theorem dX6_boughtRoom_7 : decode cX6_boughtRoom 7 = .ok (.imul, 1) := by decide +kernel
theorem dX6_boughtRoom_8 : decode cX6_boughtRoom 8 = .ok (.bipush 100, 2) := by decide +kernel
theorem dX6_boughtRoom_10 : decode cX6_boughtRoom 10 = .ok (.idiv, 1) := by decide +kernel
theorem dX6_boughtRoom_11 : decode cX6_boughtRoom 11 = .ok (.ireturn, 1) := by decide +kernel
theorem dX6_sellingNames_0 : decode cX6_sellingNames 0 = .ok (.iconst 0, 1) := by decide +kernel
theorem dX6_sellingNames_1 : decode cX6_sellingNames 1 = .ok (.istore_n 1, 1) := by decide +kernel
theorem dX6_sellingNames_2 : decode cX6_sellingNames 2 = .ok (.iconst 0, 1) := by decide +kernel
theorem dX6_sellingNames_3 : decode cX6_sellingNames 3 = .ok (.istore_n 2, 1) := by decide +kernel
theorem dX6_sellingNames_4 : decode cX6_sellingNames 4 = .ok (.iload_n 2, 1) := by decide +kernel
theorem dX6_sellingNames_5 : decode cX6_sellingNames 5 = .ok (.aload_n 0, 1) := by decide +kernel
theorem dX6_sellingNames_6 : decode cX6_sellingNames 6 = .ok (.getfield 12, 3) := by decide +kernel
theorem dX6_sellingNames_9 : decode cX6_sellingNames 9 = .ok (.getfield 161, 3) := by decide +kernel
theorem dX6_sellingNames_12 : decode cX6_sellingNames 12 = .ok (.if_icmp .ge 39, 3) := by decide +kernel
theorem dX6_sellingNames_15 : decode cX6_sellingNames 15 = .ok (.aload_n 0, 1) := by decide +kernel
theorem dX6_sellingNames_16 : decode cX6_sellingNames 16 = .ok (.getfield 12, 3) := by decide +kernel
theorem dX6_sellingNames_19 : decode cX6_sellingNames 19 = .ok (.getfield 143, 3) := by decide +kernel
theorem dX6_sellingNames_22 : decode cX6_sellingNames 22 = .ok (.iload_n 2, 1) := by decide +kernel
theorem dX6_sellingNames_23 : decode cX6_sellingNames 23 = .ok (.iaload, 1) := by decide +kernel
theorem dX6_sellingNames_24 : decode cX6_sellingNames 24 = .ok (.ifCond .le 21, 3) := by decide +kernel
theorem dX6_sellingNames_27 : decode cX6_sellingNames 27 = .ok (.aload_n 0, 1) := by decide +kernel
theorem dX6_sellingNames_28 : decode cX6_sellingNames 28 = .ok (.getfield 12, 3) := by decide +kernel
theorem dX6_sellingNames_31 : decode cX6_sellingNames 31 = .ok (.getfield 96, 3) := by decide +kernel
theorem dX6_sellingNames_34 : decode cX6_sellingNames 34 = .ok (.iload_n 2, 1) := by decide +kernel
theorem dX6_sellingNames_35 : decode cX6_sellingNames 35 = .ok (.baload, 1) := by decide +kernel
theorem dX6_sellingNames_36 : decode cX6_sellingNames 36 = .ok (.ifCond .ne 9, 3) := by decide +kernel
theorem dX6_sellingNames_39 : decode cX6_sellingNames 39 = .ok (.iload_n 1, 1) := by decide +kernel
theorem dX6_sellingNames_40 : decode cX6_sellingNames 40 = .ok (.iconst 1, 1) := by decide +kernel
theorem dX6_sellingNames_41 : decode cX6_sellingNames 41 = .ok (.iload_n 2, 1) := by decide +kernel
theorem dX6_sellingNames_42 : decode cX6_sellingNames 42 = .ok (.ishl, 1) := by decide +kernel
theorem dX6_sellingNames_43 : decode cX6_sellingNames 43 = .ok (.ior, 1) := by decide +kernel
theorem dX6_sellingNames_44 : decode cX6_sellingNames 44 = .ok (.istore_n 1, 1) := by decide +kernel
theorem dX6_sellingNames_45 : decode cX6_sellingNames 45 = .ok (.iinc 2 1, 3) := by decide +kernel
theorem dX6_sellingNames_48 : decode cX6_sellingNames 48 = .ok (.goto (-44), 3) := by decide +kernel
theorem dX6_sellingNames_51 : decode cX6_sellingNames 51 = .ok (.iload_n 1, 1) := by decide +kernel
theorem dX6_sellingNames_52 : decode cX6_sellingNames 52 = .ok (.ireturn, 1) := by decide +kernel
theorem dX6_gainBy_0 : decode cX6_gainBy 0 = .ok (.iconst 0, 1) := by decide +kernel
theorem dX6_gainBy_1 : decode cX6_gainBy 1 = .ok (.istore 4, 2) := by decide +kernel
theorem dX6_gainBy_3 : decode cX6_gainBy 3 = .ok (.aload_n 0, 1) := by decide +kernel
theorem dX6_gainBy_4 : decode cX6_gainBy 4 = .ok (.getfield 40, 3) := by decide +kernel
theorem dX6_gainBy_7 : decode cX6_gainBy 7 = .ok (.invokevirtual 354, 3) := by decide +kernel
theorem dX6_gainBy_10 : decode cX6_gainBy 10 = .ok (.iconst 0, 1) := by decide +kernel
theorem dX6_gainBy_11 : decode cX6_gainBy 11 = .ok (.istore 5, 2) := by decide +kernel
theorem dX6_gainBy_13 : decode cX6_gainBy 13 = .ok (.iload 5, 2) := by decide +kernel
theorem dX6_gainBy_15 : decode cX6_gainBy 15 = .ok (.aload_n 0, 1) := by decide +kernel
theorem dX6_gainBy_16 : decode cX6_gainBy 16 = .ok (.getfield 12, 3) := by decide +kernel
theorem dX6_gainBy_19 : decode cX6_gainBy 19 = .ok (.getfield 161, 3) := by decide +kernel
theorem dX6_gainBy_22 : decode cX6_gainBy 22 = .ok (.if_icmp .ge 45, 3) := by decide +kernel
theorem dX6_gainBy_25 : decode cX6_gainBy 25 = .ok (.iload_n 1, 1) := by decide +kernel
theorem dX6_gainBy_26 : decode cX6_gainBy 26 = .ok (.iload 5, 2) := by decide +kernel
theorem dX6_gainBy_28 : decode cX6_gainBy 28 = .ok (.invokestatic 162, 3) := by decide +kernel
theorem dX6_gainBy_31 : decode cX6_gainBy 31 = .ok (.ifCond .eq 30, 3) := by decide +kernel
theorem dX6_gainBy_34 : decode cX6_gainBy 34 = .ok (.iload 4, 2) := by decide +kernel
theorem dX6_gainBy_36 : decode cX6_gainBy 36 = .ok (.aload_n 0, 1) := by decide +kernel
theorem dX6_gainBy_37 : decode cX6_gainBy 37 = .ok (.getfield 12, 3) := by decide +kernel
theorem dX6_gainBy_40 : decode cX6_gainBy 40 = .ok (.getfield 143, 3) := by decide +kernel
theorem dX6_gainBy_43 : decode cX6_gainBy 43 = .ok (.iload 5, 2) := by decide +kernel
theorem dX6_gainBy_45 : decode cX6_gainBy 45 = .ok (.iaload, 1) := by decide +kernel
theorem dX6_gainBy_46 : decode cX6_gainBy 46 = .ok (.iadd, 1) := by decide +kernel
theorem dX6_gainBy_47 : decode cX6_gainBy 47 = .ok (.istore 4, 2) := by decide +kernel
theorem dX6_gainBy_49 : decode cX6_gainBy 49 = .ok (.aload_n 0, 1) := by decide +kernel
theorem dX6_gainBy_50 : decode cX6_gainBy 50 = .ok (.getfield 40, 3) := by decide +kernel
theorem dX6_gainBy_53 : decode cX6_gainBy 53 = .ok (.iload 5, 2) := by decide +kernel
theorem dX6_gainBy_55 : decode cX6_gainBy 55 = .ok (.bipush 12, 2) := by decide +kernel
theorem dX6_gainBy_57 : decode cX6_gainBy 57 = .ok (.iload_n 2, 1) := by decide +kernel
theorem dX6_gainBy_58 : decode cX6_gainBy 58 = .ok (.invokevirtual 338, 3) := by decide +kernel
theorem dX6_gainBy_61 : decode cX6_gainBy 61 = .ok (.iinc 5 1, 3) := by decide +kernel
theorem dX6_gainBy_64 : decode cX6_gainBy 64 = .ok (.goto (-51), 3) := by decide +kernel
theorem dX6_gainBy_67 : decode cX6_gainBy 67 = .ok (.iload_n 3, 1) := by decide +kernel
theorem dX6_gainBy_68 : decode cX6_gainBy 68 = .ok (.aload_n 0, 1) := by decide +kernel
theorem dX6_gainBy_69 : decode cX6_gainBy 69 = .ok (.getfield 40, 3) := by decide +kernel
theorem dX6_gainBy_72 : decode cX6_gainBy 72 = .ok (.sipush 4096, 3) := by decide +kernel
theorem dX6_gainBy_75 : decode cX6_gainBy 75 = .ok (.invokevirtual 193, 3) := by decide +kernel
theorem dX6_gainBy_78 : decode cX6_gainBy 78 = .ok (.imul, 1) := by decide +kernel
theorem dX6_gainBy_79 : decode cX6_gainBy 79 = .ok (.iload 4, 2) := by decide +kernel
theorem dX6_gainBy_81 : decode cX6_gainBy 81 = .ok (.isub, 1) := by decide +kernel
theorem dX6_gainBy_82 : decode cX6_gainBy 82 = .ok (.ireturn, 1) := by decide +kernel
theorem dX7_init_0 : decode cX7_init 0 = .ok (.aload_n 0, 1) := by decide +kernel
theorem dX7_init_1 : decode cX7_init 1 = .ok (.invokespecial 1, 3) := by decide +kernel
theorem dX7_init_4 : decode cX7_init 4 = .ok (.aload_n 0, 1) := by decide +kernel
theorem dX7_init_5 : decode cX7_init 5 = .ok (.bipush 12, 2) := by decide +kernel
theorem dX7_init_7 : decode cX7_init 7 = .ok (.newarray .int, 2) := by decide +kernel
theorem dX7_init_9 : decode cX7_init 9 = .ok (.putfield 7, 3) := by decide +kernel
theorem dX7_init_12 : decode cX7_init 12 = .ok (.aload_n 0, 1) := by decide +kernel
theorem dX7_init_13 : decode cX7_init 13 = .ok (.bipush 12, 2) := by decide +kernel
theorem dX7_init_15 : decode cX7_init 15 = .ok (.newarray .boolean, 2) := by decide +kernel
theorem dX7_init_17 : decode cX7_init 17 = .ok (.putfield 13, 3) := by decide +kernel
theorem dX7_init_20 : decode cX7_init 20 = .ok (.aload_n 0, 1) := by decide +kernel
theorem dX7_init_21 : decode cX7_init 21 = .ok (.bipush 12, 2) := by decide +kernel
theorem dX7_init_23 : decode cX7_init 23 = .ok (.newarray .boolean, 2) := by decide +kernel
theorem dX7_init_25 : decode cX7_init 25 = .ok (.putfield 17, 3) := by decide +kernel
theorem dX7_init_28 : decode cX7_init 28 = .ok (.aload_n 0, 1) := by decide +kernel
theorem dX7_init_29 : decode cX7_init 29 = .ok (.bipush 12, 2) := by decide +kernel
theorem dX7_init_31 : decode cX7_init 31 = .ok (.newarray .int, 2) := by decide +kernel
theorem dX7_init_33 : decode cX7_init 33 = .ok (.putfield 20, 3) := by decide +kernel
theorem dX7_init_36 : decode cX7_init 36 = .ok (.aload_n 0, 1) := by decide +kernel
theorem dX7_init_37 : decode cX7_init 37 = .ok (.bipush 12, 2) := by decide +kernel
theorem dX7_init_39 : decode cX7_init 39 = .ok (.newarray .int, 2) := by decide +kernel
theorem dX7_init_41 : decode cX7_init 41 = .ok (.putfield 23, 3) := by decide +kernel
theorem dX7_init_44 : decode cX7_init 44 = .ok (.aload_n 0, 1) := by decide +kernel
theorem dX7_init_45 : decode cX7_init 45 = .ok (.bipush 24, 2) := by decide +kernel
theorem dX7_init_47 : decode cX7_init 47 = .ok (.newarray .int, 2) := by decide +kernel
theorem dX7_init_49 : decode cX7_init 49 = .ok (.putfield 26, 3) := by decide +kernel
theorem dX7_init_52 : decode cX7_init 52 = .ok (.aload_n 0, 1) := by decide +kernel
theorem dX7_init_53 : decode cX7_init 53 = .ok (.bipush 24, 2) := by decide +kernel
theorem dX7_init_55 : decode cX7_init 55 = .ok (.newarray .int, 2) := by decide +kernel
theorem dX7_init_57 : decode cX7_init 57 = .ok (.putfield 29, 3) := by decide +kernel
theorem dX7_init_60 : decode cX7_init 60 = .ok (.aload_n 0, 1) := by decide +kernel
theorem dX7_init_61 : decode cX7_init 61 = .ok (.bipush 24, 2) := by decide +kernel
theorem dX7_init_63 : decode cX7_init 63 = .ok (.newarray .int, 2) := by decide +kernel
theorem dX7_init_65 : decode cX7_init 65 = .ok (.putfield 32, 3) := by decide +kernel
theorem dX7_init_68 : decode cX7_init 68 = .ok (.aload_n 0, 1) := by decide +kernel
theorem dX7_init_69 : decode cX7_init 69 = .ok (.bipush 24, 2) := by decide +kernel
theorem dX7_init_71 : decode cX7_init 71 = .ok (.newarray .int, 2) := by decide +kernel
theorem dX7_init_73 : decode cX7_init 73 = .ok (.putfield 35, 3) := by decide +kernel
theorem dX7_init_76 : decode cX7_init 76 = .ok (.aload_n 0, 1) := by decide +kernel
theorem dX7_init_77 : decode cX7_init 77 = .ok (.bipush 24, 2) := by decide +kernel
theorem dX7_init_79 : decode cX7_init 79 = .ok (.newarray .int, 2) := by decide +kernel
theorem dX7_init_81 : decode cX7_init 81 = .ok (.putfield 38, 3) := by decide +kernel
theorem dX7_init_84 : decode cX7_init 84 = .ok (.aload_n 0, 1) := by decide +kernel
theorem dX7_init_85 : decode cX7_init 85 = .ok (.bipush 10, 2) := by decide +kernel
theorem dX7_init_87 : decode cX7_init 87 = .ok (.newarray .int, 2) := by decide +kernel
theorem dX7_init_89 : decode cX7_init 89 = .ok (.putfield 41, 3) := by decide +kernel
theorem dX7_init_92 : decode cX7_init 92 = .ok (.aload_n 0, 1) := by decide +kernel
theorem dX7_init_93 : decode cX7_init 93 = .ok (.bipush 10, 2) := by decide +kernel
theorem dX7_init_95 : decode cX7_init 95 = .ok (.newarray .int, 2) := by decide +kernel
theorem dX7_init_97 : decode cX7_init 97 = .ok (.putfield 44, 3) := by decide +kernel
theorem dX7_init_100 : decode cX7_init 100 = .ok (.aload_n 0, 1) := by decide +kernel
theorem dX7_init_101 : decode cX7_init 101 = .ok (.bipush 10, 2) := by decide +kernel
theorem dX7_init_103 : decode cX7_init 103 = .ok (.newarray .boolean, 2) := by decide +kernel
theorem dX7_init_105 : decode cX7_init 105 = .ok (.putfield 47, 3) := by decide +kernel
theorem dX7_init_108 : decode cX7_init 108 = .ok (.aload_n 0, 1) := by decide +kernel
theorem dX7_init_109 : decode cX7_init 109 = .ok (.sipush 200, 3) := by decide +kernel
theorem dX7_init_112 : decode cX7_init 112 = .ok (.newarray .int, 2) := by decide +kernel
theorem dX7_init_114 : decode cX7_init 114 = .ok (.putfield 50, 3) := by decide +kernel
theorem dX7_init_117 : decode cX7_init 117 = .ok (.aload_n 0, 1) := by decide +kernel
theorem dX7_init_118 : decode cX7_init 118 = .ok (.sipush 196, 3) := by decide +kernel
theorem dX7_init_121 : decode cX7_init 121 = .ok (.newarray .int, 2) := by decide +kernel
theorem dX7_init_123 : decode cX7_init 123 = .ok (.putfield 53, 3) := by decide +kernel
theorem dX7_init_126 : decode cX7_init 126 = .ok (.aload_n 0, 1) := by decide +kernel
theorem dX7_init_127 : decode cX7_init 127 = .ok (.bipush 14, 2) := by decide +kernel
theorem dX7_init_129 : decode cX7_init 129 = .ok (.newarray .int, 2) := by decide +kernel
theorem dX7_init_131 : decode cX7_init 131 = .ok (.putfield 56, 3) := by decide +kernel
theorem dX7_init_134 : decode cX7_init 134 = .ok (.aload_n 0, 1) := by decide +kernel
theorem dX7_init_135 : decode cX7_init 135 = .ok (.bipush 14, 2) := by decide +kernel
theorem dX7_init_137 : decode cX7_init 137 = .ok (.newarray .int, 2) := by decide +kernel
theorem dX7_init_139 : decode cX7_init 139 = .ok (.putfield 59, 3) := by decide +kernel
theorem dX7_init_142 : decode cX7_init 142 = .ok (.aload_n 0, 1) := by decide +kernel
theorem dX7_init_143 : decode cX7_init 143 = .ok (.bipush 24, 2) := by decide +kernel
theorem dX7_init_145 : decode cX7_init 145 = .ok (.newarray .int, 2) := by decide +kernel
theorem dX7_init_147 : decode cX7_init 147 = .ok (.putfield 62, 3) := by decide +kernel
theorem dX7_init_150 : decode cX7_init 150 = .ok (.aload_n 0, 1) := by decide +kernel
theorem dX7_init_151 : decode cX7_init 151 = .ok (.bipush 24, 2) := by decide +kernel
theorem dX7_init_153 : decode cX7_init 153 = .ok (.newarray .int, 2) := by decide +kernel
theorem dX7_init_155 : decode cX7_init 155 = .ok (.putfield 65, 3) := by decide +kernel
theorem dX7_init_158 : decode cX7_init 158 = .ok (.aload_n 0, 1) := by decide +kernel
theorem dX7_init_159 : decode cX7_init 159 = .ok (.bipush 24, 2) := by decide +kernel
theorem dX7_init_161 : decode cX7_init 161 = .ok (.newarray .int, 2) := by decide +kernel
theorem dX7_init_163 : decode cX7_init 163 = .ok (.putfield 68, 3) := by decide +kernel
theorem dX7_init_166 : decode cX7_init 166 = .ok (.aload_n 0, 1) := by decide +kernel
theorem dX7_init_167 : decode cX7_init 167 = .ok (.bipush 24, 2) := by decide +kernel
theorem dX7_init_169 : decode cX7_init 169 = .ok (.newarray .int, 2) := by decide +kernel
theorem dX7_init_171 : decode cX7_init 171 = .ok (.putfield 71, 3) := by decide +kernel
theorem dX7_init_174 : decode cX7_init 174 = .ok (.aload_n 0, 1) := by decide +kernel
theorem dX7_init_175 : decode cX7_init 175 = .ok (.bipush 24, 2) := by decide +kernel
theorem dX7_init_177 : decode cX7_init 177 = .ok (.newarray .int, 2) := by decide +kernel
theorem dX7_init_179 : decode cX7_init 179 = .ok (.putfield 74, 3) := by decide +kernel
theorem dX7_init_182 : decode cX7_init 182 = .ok (.aload_n 0, 1) := by decide +kernel
theorem dX7_init_183 : decode cX7_init 183 = .ok (.bipush 12, 2) := by decide +kernel
theorem dX7_init_185 : decode cX7_init 185 = .ok (.newarray .int, 2) := by decide +kernel
theorem dX7_init_187 : decode cX7_init 187 = .ok (.putfield 77, 3) := by decide +kernel
theorem dX7_init_190 : decode cX7_init 190 = .ok (.aload_n 0, 1) := by decide +kernel
theorem dX7_init_191 : decode cX7_init 191 = .ok (.bipush 12, 2) := by decide +kernel
theorem dX7_init_193 : decode cX7_init 193 = .ok (.newarray .int, 2) := by decide +kernel
theorem dX7_init_195 : decode cX7_init 195 = .ok (.putfield 80, 3) := by decide +kernel
theorem dX7_init_198 : decode cX7_init 198 = .ok (.aload_n 0, 1) := by decide +kernel
theorem dX7_init_199 : decode cX7_init 199 = .ok (.iconst 4, 1) := by decide +kernel
theorem dX7_init_200 : decode cX7_init 200 = .ok (.newarray .int, 2) := by decide +kernel
theorem dX7_init_202 : decode cX7_init 202 = .ok (.putfield 83, 3) := by decide +kernel
theorem dX7_init_205 : decode cX7_init 205 = .ok (.aload_n 0, 1) := by decide +kernel
theorem dX7_init_206 : decode cX7_init 206 = .ok (.iconst 4, 1) := by decide +kernel
theorem dX7_init_207 : decode cX7_init 207 = .ok (.newarray .int, 2) := by decide +kernel
theorem dX7_init_209 : decode cX7_init 209 = .ok (.putfield 86, 3) := by decide +kernel
theorem dX7_init_212 : decode cX7_init 212 = .ok (.aload_n 0, 1) := by decide +kernel
theorem dX7_init_213 : decode cX7_init 213 = .ok (.sipush 192, 3) := by decide +kernel
theorem dX7_init_216 : decode cX7_init 216 = .ok (.newarray .int, 2) := by decide +kernel
theorem dX7_init_218 : decode cX7_init 218 = .ok (.putfield 89, 3) := by decide +kernel
theorem dX7_init_221 : decode cX7_init 221 = .ok (.iconst 0, 1) := by decide +kernel
theorem dX7_init_222 : decode cX7_init 222 = .ok (.istore_n 1, 1) := by decide +kernel
theorem dX7_init_223 : decode cX7_init 223 = .ok (.iload_n 1, 1) := by decide +kernel
theorem dX7_init_224 : decode cX7_init 224 = .ok (.iconst 4, 1) := by decide +kernel
theorem dX7_init_225 : decode cX7_init 225 = .ok (.if_icmp .ge 17, 3) := by decide +kernel
theorem dX7_init_228 : decode cX7_init 228 = .ok (.aload_n 0, 1) := by decide +kernel
theorem dX7_init_229 : decode cX7_init 229 = .ok (.getfield 83, 3) := by decide +kernel
theorem dX7_init_232 : decode cX7_init 232 = .ok (.iload_n 1, 1) := by decide +kernel
theorem dX7_init_233 : decode cX7_init 233 = .ok (.bipush (-4), 2) := by decide +kernel
theorem dX7_init_235 : decode cX7_init 235 = .ok (.iastore, 1) := by decide +kernel
theorem dX7_init_236 : decode cX7_init 236 = .ok (.iinc 1 1, 3) := by decide +kernel
theorem dX7_init_239 : decode cX7_init 239 = .ok (.goto (-16), 3) := by decide +kernel
theorem dX7_init_242 : decode cX7_init 242 = .ok (.aload_n 0, 1) := by decide +kernel
theorem dX7_init_243 : decode cX7_init 243 = .ok (.invokevirtual 92, 3) := by decide +kernel
theorem dX7_init_246 : decode cX7_init 246 = .ok (.aload_n 0, 1) := by decide +kernel
theorem dX7_init_247 : decode cX7_init 247 = .ok (.invokevirtual 95, 3) := by decide +kernel
theorem dX7_init_250 : decode cX7_init 250 = .ok (.return_, 1) := by decide +kernel
theorem dX7_in_0 : decode cX7_in 0 = .ok (.lload_n 0, 1) := by decide +kernel
theorem dX7_in_1 : decode cX7_in 1 = .ok (.lload_n 2, 1) := by decide +kernel
theorem dX7_in_2 : decode cX7_in 2 = .ok (.lcmp, 1) := by decide +kernel
theorem dX7_in_3 : decode cX7_in 3 = .ok (.ifCond .lt 14, 3) := by decide +kernel
theorem dX7_in_6 : decode cX7_in 6 = .ok (.lload_n 0, 1) := by decide +kernel
theorem dX7_in_7 : decode cX7_in 7 = .ok (.lload 4, 2) := by decide +kernel
theorem dX7_in_9 : decode cX7_in 9 = .ok (.lcmp, 1) := by decide +kernel
theorem dX7_in_10 : decode cX7_in 10 = .ok (.ifCond .gt 7, 3) := by decide +kernel
theorem dX7_in_13 : decode cX7_in 13 = .ok (.iconst 1, 1) := by decide +kernel
theorem dX7_in_14 : decode cX7_in 14 = .ok (.goto 4, 3) := by decide +kernel
theorem dX7_in_17 : decode cX7_in 17 = .ok (.iconst 0, 1) := by decide +kernel
theorem dX7_in_18 : decode cX7_in 18 = .ok (.ireturn, 1) := by decide +kernel
theorem dX7_bits_0 : decode cX7_bits 0 = .ok (.iconst 0, 1) := by decide +kernel
theorem dX7_bits_1 : decode cX7_bits 1 = .ok (.istore_n 1, 1) := by decide +kernel
theorem dX7_bits_2 : decode cX7_bits 2 = .ok (.iconst 0, 1) := by decide +kernel
theorem dX7_bits_3 : decode cX7_bits 3 = .ok (.istore_n 2, 1) := by decide +kernel
theorem dX7_bits_4 : decode cX7_bits 4 = .ok (.iload_n 2, 1) := by decide +kernel
theorem dX7_bits_5 : decode cX7_bits 5 = .ok (.bipush 24, 2) := by decide +kernel
theorem dX7_bits_7 : decode cX7_bits 7 = .ok (.if_icmp .ge 17, 3) := by decide +kernel
theorem dX7_bits_10 : decode cX7_bits 10 = .ok (.iload_n 1, 1) := by decide +kernel
theorem dX7_bits_11 : decode cX7_bits 11 = .ok (.iload_n 0, 1) := by decide +kernel
theorem dX7_bits_12 : decode cX7_bits 12 = .ok (.iload_n 2, 1) := by decide +kernel
theorem dX7_bits_13 : decode cX7_bits 13 = .ok (.ishr, 1) := by decide +kernel
theorem dX7_bits_14 : decode cX7_bits 14 = .ok (.iconst 1, 1) := by decide +kernel
theorem dX7_bits_15 : decode cX7_bits 15 = .ok (.iand, 1) := by decide +kernel
theorem dX7_bits_16 : decode cX7_bits 16 = .ok (.iadd, 1) := by decide +kernel
theorem dX7_bits_17 : decode cX7_bits 17 = .ok (.istore_n 1, 1) := by decide +kernel
theorem dX7_bits_18 : decode cX7_bits 18 = .ok (.iinc 2 1, 3) := by decide +kernel
theorem dX7_bits_21 : decode cX7_bits 21 = .ok (.goto (-17), 3) := by decide +kernel
theorem dX7_bits_24 : decode cX7_bits 24 = .ok (.iload_n 1, 1) := by decide +kernel
theorem dX7_bits_25 : decode cX7_bits 25 = .ok (.ireturn, 1) := by decide +kernel
theorem dX7_common_0 : decode cX7_common 0 = .ok (.lload_n 0, 1) := by decide +kernel
theorem dX7_common_1 : decode cX7_common 1 = .ok (.lstore 4, 2) := by decide +kernel
theorem dX7_common_3 : decode cX7_common 3 = .ok (.lload_n 2, 1) := by decide +kernel
theorem dX7_common_4 : decode cX7_common 4 = .ok (.lstore 6, 2) := by decide +kernel
theorem dX7_common_6 : decode cX7_common 6 = .ok (.lload 6, 2) := by decide +kernel
theorem dX7_common_8 : decode cX7_common 8 = .ok (.lconst 0, 1) := by decide +kernel
theorem dX7_common_9 : decode cX7_common 9 = .ok (.lcmp, 1) := by decide +kernel
theorem dX7_common_10 : decode cX7_common 10 = .ok (.ifCond .eq 21, 3) := by decide +kernel
theorem dX7_common_13 : decode cX7_common 13 = .ok (.lload 4, 2) := by decide +kernel
theorem dX7_common_15 : decode cX7_common 15 = .ok (.lload 6, 2) := by decide +kernel
theorem dX7_common_17 : decode cX7_common 17 = .ok (.lrem, 1) := by decide +kernel
theorem dX7_common_18 : decode cX7_common 18 = .ok (.lstore 8, 2) := by decide +kernel
theorem dX7_common_20 : decode cX7_common 20 = .ok (.lload 6, 2) := by decide +kernel
theorem dX7_common_22 : decode cX7_common 22 = .ok (.lstore 4, 2) := by decide +kernel
theorem dX7_common_24 : decode cX7_common 24 = .ok (.lload 8, 2) := by decide +kernel
theorem dX7_common_26 : decode cX7_common 26 = .ok (.lstore 6, 2) := by decide +kernel
theorem dX7_common_28 : decode cX7_common 28 = .ok (.goto (-22), 3) := by decide +kernel
theorem dX7_common_31 : decode cX7_common 31 = .ok (.lload 4, 2) := by decide +kernel
theorem dX7_common_33 : decode cX7_common 33 = .ok (.lreturn, 1) := by decide +kernel
theorem dX7_isName_0 : decode cX7_isName 0 = .ok (.iload_n 1, 1) := by decide +kernel
theorem dX7_isName_1 : decode cX7_isName 1 = .ok (.i2l, 1) := by decide +kernel
theorem dX7_isName_2 : decode cX7_isName 2 = .ok (.lconst 0, 1) := by decide +kernel
theorem dX7_isName_3 : decode cX7_isName 3 = .ok (.aload_n 0, 1) := by decide +kernel
theorem dX7_isName_4 : decode cX7_isName 4 = .ok (.getfield 98, 3) := by decide +kernel
theorem dX7_isName_7 : decode cX7_isName 7 = .ok (.iconst 1, 1) := by decide +kernel
theorem dX7_isName_8 : decode cX7_isName 8 = .ok (.isub, 1) := by decide +kernel
theorem dX7_isName_9 : decode cX7_isName 9 = .ok (.i2l, 1) := by decide +kernel
theorem dX7_isName_10 : decode cX7_isName 10 = .ok (.invokestatic 102, 3) := by decide +kernel
theorem dX7_isName_13 : decode cX7_isName 13 = .ok (.ireturn, 1) := by decide +kernel
theorem dX7_isFined_0 : decode cX7_isFined 0 = .ok (.aload_n 0, 1) := by decide +kernel
theorem dX7_isFined_1 : decode cX7_isFined 1 = .ok (.getfield 106, 3) := by decide +kernel
theorem dX7_isFined_4 : decode cX7_isFined 4 = .ok (.aload_n 0, 1) := by decide +kernel
theorem dX7_isFined_5 : decode cX7_isFined 5 = .ok (.getfield 20, 3) := by decide +kernel
theorem dX7_isFined_8 : decode cX7_isFined 8 = .ok (.iload_n 1, 1) := by decide +kernel
theorem dX7_isFined_9 : decode cX7_isFined 9 = .ok (.iaload, 1) := by decide +kernel
theorem dX7_isFined_10 : decode cX7_isFined 10 = .ok (.if_icmp .ge 7, 3) := by decide +kernel
theorem dX7_isFined_13 : decode cX7_isFined 13 = .ok (.iconst 1, 1) := by decide +kernel
theorem dX7_isFined_14 : decode cX7_isFined 14 = .ok (.goto 4, 3) := by decide +kernel
theorem dX7_isFined_17 : decode cX7_isFined 17 = .ok (.iconst 0, 1) := by decide +kernel
theorem dX7_isFined_18 : decode cX7_isFined 18 = .ok (.ireturn, 1) := by decide +kernel
theorem dX7_name_0 : decode cX7_name 0 = .ok (.iload_n 1, 1) := by decide +kernel
theorem dX7_name_1 : decode cX7_name 1 = .ok (.i2l, 1) := by decide +kernel
theorem dX7_name_2 : decode cX7_name 2 = .ok (.lconst 0, 1) := by decide +kernel
theorem dX7_name_3 : decode cX7_name 3 = .ok (.ldc2_w 109, 3) := by decide +kernel
theorem dX7_name_6 : decode cX7_name 6 = .ok (.invokestatic 102, 3) := by decide +kernel
theorem dX7_name_9 : decode cX7_name 9 = .ok (.ifCond .ne 5, 3) := by decide +kernel
theorem dX7_name_12 : decode cX7_name 12 = .ok (.iconst (-1), 1) := by decide +kernel
theorem dX7_name_13 : decode cX7_name 13 = .ok (.ireturn, 1) := by decide +kernel
theorem dX7_name_14 : decode cX7_name 14 = .ok (.aload_n 0, 1) := by decide +kernel
theorem dX7_name_15 : decode cX7_name 15 = .ok (.getfield 98, 3) := by decide +kernel
theorem dX7_name_18 : decode cX7_name 18 = .ok (.bipush 12, 2) := by decide +kernel
theorem dX7_name_20 : decode cX7_name 20 = .ok (.if_icmp .ne 6, 3) := by decide +kernel
theorem dX7_name_23 : decode cX7_name 23 = .ok (.bipush (-3), 2) := by decide +kernel
theorem dX7_name_25 : decode cX7_name 25 = .ok (.ireturn, 1) := by decide +kernel
theorem dX7_name_26 : decode cX7_name 26 = .ok (.aload_n 0, 1) := by decide +kernel
theorem dX7_name_27 : decode cX7_name 27 = .ok (.getfield 7, 3) := by decide +kernel
theorem dX7_name_30 : decode cX7_name 30 = .ok (.aload_n 0, 1) := by decide +kernel
theorem dX7_name_31 : decode cX7_name 31 = .ok (.getfield 98, 3) := by decide +kernel
theorem dX7_name_34 : decode cX7_name 34 = .ok (.iload_n 1, 1) := by decide +kernel
theorem dX7_name_35 : decode cX7_name 35 = .ok (.iastore, 1) := by decide +kernel
theorem dX7_name_36 : decode cX7_name 36 = .ok (.aload_n 0, 1) := by decide +kernel
theorem dX7_name_37 : decode cX7_name 37 = .ok (.dup, 1) := by decide +kernel
theorem dX7_name_38 : decode cX7_name 38 = .ok (.getfield 98, 3) := by decide +kernel
theorem dX7_name_41 : decode cX7_name 41 = .ok (.iconst 1, 1) := by decide +kernel
theorem dX7_name_42 : decode cX7_name 42 = .ok (.iadd, 1) := by decide +kernel
theorem dX7_name_43 : decode cX7_name 43 = .ok (.putfield 98, 3) := by decide +kernel
theorem dX7_name_46 : decode cX7_name 46 = .ok (.aload_n 0, 1) := by decide +kernel
theorem dX7_name_47 : decode cX7_name 47 = .ok (.getfield 98, 3) := by decide +kernel
theorem dX7_name_50 : decode cX7_name 50 = .ok (.iconst 1, 1) := by decide +kernel
theorem dX7_name_51 : decode cX7_name 51 = .ok (.isub, 1) := by decide +kernel
theorem dX7_name_52 : decode cX7_name 52 = .ok (.ireturn, 1) := by decide +kernel
theorem dX7_seed_0 : decode cX7_seed 0 = .ok (.aload_n 0, 1) := by decide +kernel
theorem dX7_seed_1 : decode cX7_seed 1 = .ok (.iload_n 1, 1) := by decide +kernel
theorem dX7_seed_2 : decode cX7_seed 2 = .ok (.invokevirtual 111, 3) := by decide +kernel
theorem dX7_seed_5 : decode cX7_seed 5 = .ok (.ifCond .ne 5, 3) := by decide +kernel
theorem dX7_seed_8 : decode cX7_seed 8 = .ok (.iconst (-1), 1) := by decide +kernel
theorem dX7_seed_9 : decode cX7_seed 9 = .ok (.ireturn, 1) := by decide +kernel
theorem dX7_seed_10 : decode cX7_seed 10 = .ok (.aload_n 0, 1) := by decide +kernel
theorem dX7_seed_11 : decode cX7_seed 11 = .ok (.getfield 13, 3) := by decide +kernel
theorem dX7_seed_14 : decode cX7_seed 14 = .ok (.iload_n 1, 1) := by decide +kernel
theorem dX7_seed_15 : decode cX7_seed 15 = .ok (.baload, 1) := by decide +kernel
theorem dX7_seed_16 : decode cX7_seed 16 = .ok (.ifCond .eq 7, 3) := by decide +kernel
theorem dX7_seed_19 : decode cX7_seed 19 = .ok (.iconst 1, 1) := by decide +kernel
theorem dX7_seed_20 : decode cX7_seed 20 = .ok (.goto 4, 3) := by decide +kernel
theorem dX7_seed_23 : decode cX7_seed 23 = .ok (.iconst 0, 1) := by decide +kernel
theorem dX7_seed_24 : decode cX7_seed 24 = .ok (.istore_n 3, 1) := by decide +kernel
theorem dX7_seed_25 : decode cX7_seed 25 = .ok (.aload_n 0, 1) := by decide +kernel
theorem dX7_seed_26 : decode cX7_seed 26 = .ok (.getfield 13, 3) := by decide +kernel
theorem dX7_seed_29 : decode cX7_seed 29 = .ok (.iload_n 1, 1) := by decide +kernel
theorem dX7_seed_30 : decode cX7_seed 30 = .ok (.iload_n 2, 1) := by decide +kernel
theorem dX7_seed_31 : decode cX7_seed 31 = .ok (.bastore, 1) := by decide +kernel
theorem dX7_seed_32 : decode cX7_seed 32 = .ok (.iload_n 3, 1) := by decide +kernel
theorem dX7_seed_33 : decode cX7_seed 33 = .ok (.ireturn, 1) := by decide +kernel
theorem dX7_pledged_0 : decode cX7_pledged 0 = .ok (.aload_n 0, 1) := by decide +kernel
theorem dX7_pledged_1 : decode cX7_pledged 1 = .ok (.getfield 23, 3) := by decide +kernel
theorem dX7_pledged_4 : decode cX7_pledged 4 = .ok (.iload_n 1, 1) := by decide +kernel
theorem dX7_pledged_5 : decode cX7_pledged 5 = .ok (.iaload, 1) := by decide +kernel
theorem dX7_pledged_6 : decode cX7_pledged 6 = .ok (.aload_n 0, 1) := by decide +kernel
theorem dX7_pledged_7 : decode cX7_pledged 7 = .ok (.getfield 41, 3) := by decide +kernel
theorem dX7_pledged_10 : decode cX7_pledged 10 = .ok (.bipush 7, 2) := by decide +kernel
theorem dX7_pledged_12 : decode cX7_pledged 12 = .ok (.iaload, 1) := by decide +kernel
theorem dX7_pledged_13 : decode cX7_pledged 13 = .ok (.imul, 1) := by decide +kernel
theorem dX7_pledged_14 : decode cX7_pledged 14 = .ok (.bipush 100, 2) := by decide +kernel
theorem dX7_pledged_16 : decode cX7_pledged 16 = .ok (.idiv, 1) := by decide +kernel
theorem dX7_pledged_17 : decode cX7_pledged 17 = .ok (.ireturn, 1) := by decide +kernel
theorem dX7_pledge_0 : decode cX7_pledge 0 = .ok (.aload_n 0, 1) := by decide +kernel
theorem dX7_pledge_1 : decode cX7_pledge 1 = .ok (.iload_n 1, 1) := by decide +kernel
theorem dX7_pledge_2 : decode cX7_pledge 2 = .ok (.invokevirtual 111, 3) := by decide +kernel
theorem dX7_pledge_5 : decode cX7_pledge 5 = .ok (.ifCond .eq 15, 3) := by decide +kernel
theorem dX7_pledge_8 : decode cX7_pledge 8 = .ok (.iload_n 2, 1) := by decide +kernel
theorem dX7_pledge_9 : decode cX7_pledge 9 = .ok (.i2l, 1) := by decide +kernel
theorem dX7_pledge_10 : decode cX7_pledge 10 = .ok (.lconst 1, 1) := by decide +kernel
theorem dX7_pledge_11 : decode cX7_pledge 11 = .ok (.ldc2_w 109, 3) := by decide +kernel
theorem dX7_pledge_14 : decode cX7_pledge 14 = .ok (.invokestatic 102, 3) := by decide +kernel
theorem dX7_pledge_17 : decode cX7_pledge 17 = .ok (.ifCond .ne 5, 3) := by decide +kernel
theorem dX7_pledge_20 : decode cX7_pledge 20 = .ok (.iconst (-1), 1) := by decide +kernel
theorem dX7_pledge_21 : decode cX7_pledge 21 = .ok (.ireturn, 1) := by decide +kernel
theorem dX7_pledge_22 : decode cX7_pledge 22 = .ok (.aload_n 0, 1) := by decide +kernel
theorem dX7_pledge_23 : decode cX7_pledge 23 = .ok (.getfield 17, 3) := by decide +kernel
theorem dX7_pledge_26 : decode cX7_pledge 26 = .ok (.iload_n 1, 1) := by decide +kernel
theorem dX7_pledge_27 : decode cX7_pledge 27 = .ok (.baload, 1) := by decide +kernel
theorem dX7_pledge_28 : decode cX7_pledge 28 = .ok (.ifCond .eq 6, 3) := by decide +kernel
theorem dX7_pledge_31 : decode cX7_pledge 31 = .ok (.bipush (-2), 2) := by decide +kernel
theorem dX7_pledge_33 : decode cX7_pledge 33 = .ok (.ireturn, 1) := by decide +kernel
theorem dX7_pledge_34 : decode cX7_pledge 34 = .ok (.aload_n 0, 1) := by decide +kernel
theorem dX7_pledge_35 : decode cX7_pledge 35 = .ok (.getfield 23, 3) := by decide +kernel
theorem dX7_pledge_38 : decode cX7_pledge 38 = .ok (.iload_n 1, 1) := by decide +kernel
theorem dX7_pledge_39 : decode cX7_pledge 39 = .ok (.dup2, 1) := by decide +kernel
theorem dX7_pledge_40 : decode cX7_pledge 40 = .ok (.iaload, 1) := by decide +kernel
theorem dX7_pledge_41 : decode cX7_pledge 41 = .ok (.iload_n 2, 1) := by decide +kernel
theorem dX7_pledge_42 : decode cX7_pledge 42 = .ok (.iadd, 1) := by decide +kernel
theorem dX7_pledge_43 : decode cX7_pledge 43 = .ok (.iastore, 1) := by decide +kernel
theorem dX7_pledge_44 : decode cX7_pledge 44 = .ok (.aload_n 0, 1) := by decide +kernel
theorem dX7_pledge_45 : decode cX7_pledge 45 = .ok (.iload_n 1, 1) := by decide +kernel
theorem dX7_pledge_46 : decode cX7_pledge 46 = .ok (.invokevirtual 115, 3) := by decide +kernel
theorem dX7_pledge_49 : decode cX7_pledge 49 = .ok (.ireturn, 1) := by decide +kernel
theorem dX7_tie_0 : decode cX7_tie 0 = .ok (.aload_n 0, 1) := by decide +kernel
theorem dX7_tie_1 : decode cX7_tie 1 = .ok (.iload_n 1, 1) := by decide +kernel
theorem dX7_tie_2 : decode cX7_tie 2 = .ok (.invokevirtual 111, 3) := by decide +kernel
theorem dX7_tie_5 : decode cX7_tie 5 = .ok (.ifCond .eq 41, 3) := by decide +kernel
theorem dX7_tie_8 : decode cX7_tie 8 = .ok (.aload_n 0, 1) := by decide +kernel
theorem dX7_tie_9 : decode cX7_tie 9 = .ok (.iload_n 2, 1) := by decide +kernel
theorem dX7_tie_10 : decode cX7_tie 10 = .ok (.invokevirtual 111, 3) := by decide +kernel
theorem dX7_tie_13 : decode cX7_tie 13 = .ok (.ifCond .eq 33, 3) := by decide +kernel
theorem dX7_tie_16 : decode cX7_tie 16 = .ok (.iload_n 1, 1) := by decide +kernel
theorem dX7_tie_17 : decode cX7_tie 17 = .ok (.iload_n 2, 1) := by decide +kernel
theorem dX7_tie_18 : decode cX7_tie 18 = .ok (.if_icmp .eq 28, 3) := by decide +kernel
theorem dX7_tie_21 : decode cX7_tie 21 = .ok (.iload_n 3, 1) := by decide +kernel
theorem dX7_tie_22 : decode cX7_tie 22 = .ok (.i2l, 1) := by decide +kernel
theorem dX7_tie_23 : decode cX7_tie 23 = .ok (.lconst 1, 1) := by decide +kernel
theorem dX7_tie_24 : decode cX7_tie 24 = .ok (.ldc2_w 109, 3) := by decide +kernel
theorem dX7_tie_27 : decode cX7_tie 27 = .ok (.invokestatic 102, 3) := by decide +kernel
theorem dX7_tie_30 : decode cX7_tie 30 = .ok (.ifCond .eq 16, 3) := by decide +kernel
theorem dX7_tie_33 : decode cX7_tie 33 = .ok (.iload 4, 2) := by decide +kernel
theorem dX7_tie_35 : decode cX7_tie 35 = .ok (.i2l, 1) := by decide +kernel
theorem dX7_tie_36 : decode cX7_tie 36 = .ok (.lconst 0, 1) := by decide +kernel
theorem dX7_tie_37 : decode cX7_tie 37 = .ok (.ldc2_w 119, 3) := by decide +kernel
theorem dX7_tie_40 : decode cX7_tie 40 = .ok (.invokestatic 102, 3) := by decide +kernel
theorem dX7_tie_43 : decode cX7_tie 43 = .ok (.ifCond .ne 5, 3) := by decide +kernel
theorem dX7_tie_46 : decode cX7_tie 46 = .ok (.iconst (-1), 1) := by decide +kernel
theorem dX7_tie_47 : decode cX7_tie 47 = .ok (.ireturn, 1) := by decide +kernel
theorem dX7_tie_48 : decode cX7_tie 48 = .ok (.aload_n 0, 1) := by decide +kernel
theorem dX7_tie_49 : decode cX7_tie 49 = .ok (.getfield 121, 3) := by decide +kernel
theorem dX7_tie_52 : decode cX7_tie 52 = .ok (.bipush 24, 2) := by decide +kernel
theorem dX7_tie_54 : decode cX7_tie 54 = .ok (.if_icmp .ne 6, 3) := by decide +kernel
theorem dX7_tie_57 : decode cX7_tie 57 = .ok (.bipush (-3), 2) := by decide +kernel
theorem dX7_tie_59 : decode cX7_tie 59 = .ok (.ireturn, 1) := by decide +kernel
theorem dX7_tie_60 : decode cX7_tie 60 = .ok (.aload_n 0, 1) := by decide +kernel
theorem dX7_tie_61 : decode cX7_tie 61 = .ok (.getfield 17, 3) := by decide +kernel
theorem dX7_tie_64 : decode cX7_tie 64 = .ok (.iload_n 1, 1) := by decide +kernel
theorem dX7_tie_65 : decode cX7_tie 65 = .ok (.baload, 1) := by decide +kernel
theorem dX7_tie_66 : decode cX7_tie 66 = .ok (.ifCond .ne 12, 3) := by decide +kernel
theorem dX7_tie_69 : decode cX7_tie 69 = .ok (.aload_n 0, 1) := by decide +kernel
theorem dX7_tie_70 : decode cX7_tie 70 = .ok (.getfield 17, 3) := by decide +kernel
theorem dX7_tie_73 : decode cX7_tie 73 = .ok (.iload_n 2, 1) := by decide +kernel
theorem dX7_tie_74 : decode cX7_tie 74 = .ok (.baload, 1) := by decide +kernel
theorem dX7_tie_75 : decode cX7_tie 75 = .ok (.ifCond .eq 6, 3) := by decide +kernel
theorem dX7_tie_78 : decode cX7_tie 78 = .ok (.bipush (-2), 2) := by decide +kernel
theorem dX7_tie_80 : decode cX7_tie 80 = .ok (.ireturn, 1) := by decide +kernel
theorem dX7_tie_81 : decode cX7_tie 81 = .ok (.aload_n 0, 1) := by decide +kernel
theorem dX7_tie_82 : decode cX7_tie 82 = .ok (.getfield 26, 3) := by decide +kernel
theorem dX7_tie_85 : decode cX7_tie 85 = .ok (.aload_n 0, 1) := by decide +kernel
theorem dX7_tie_86 : decode cX7_tie 86 = .ok (.getfield 121, 3) := by decide +kernel
theorem dX7_tie_89 : decode cX7_tie 89 = .ok (.iload_n 1, 1) := by decide +kernel
theorem dX7_tie_90 : decode cX7_tie 90 = .ok (.iastore, 1) := by decide +kernel
theorem dX7_tie_91 : decode cX7_tie 91 = .ok (.aload_n 0, 1) := by decide +kernel
theorem dX7_tie_92 : decode cX7_tie 92 = .ok (.getfield 29, 3) := by decide +kernel
theorem dX7_tie_95 : decode cX7_tie 95 = .ok (.aload_n 0, 1) := by decide +kernel
theorem dX7_tie_96 : decode cX7_tie 96 = .ok (.getfield 121, 3) := by decide +kernel
theorem dX7_tie_99 : decode cX7_tie 99 = .ok (.iload_n 2, 1) := by decide +kernel
theorem dX7_tie_100 : decode cX7_tie 100 = .ok (.iastore, 1) := by decide +kernel
theorem dX7_tie_101 : decode cX7_tie 101 = .ok (.aload_n 0, 1) := by decide +kernel
theorem dX7_tie_102 : decode cX7_tie 102 = .ok (.getfield 32, 3) := by decide +kernel
theorem dX7_tie_105 : decode cX7_tie 105 = .ok (.aload_n 0, 1) := by decide +kernel
theorem dX7_tie_106 : decode cX7_tie 106 = .ok (.getfield 121, 3) := by decide +kernel
theorem dX7_tie_109 : decode cX7_tie 109 = .ok (.iload_n 3, 1) := by decide +kernel
theorem dX7_tie_110 : decode cX7_tie 110 = .ok (.iastore, 1) := by decide +kernel
theorem dX7_tie_111 : decode cX7_tie 111 = .ok (.aload_n 0, 1) := by decide +kernel
theorem dX7_tie_112 : decode cX7_tie 112 = .ok (.getfield 35, 3) := by decide +kernel
theorem dX7_tie_115 : decode cX7_tie 115 = .ok (.aload_n 0, 1) := by decide +kernel
theorem dX7_tie_116 : decode cX7_tie 116 = .ok (.getfield 121, 3) := by decide +kernel
theorem dX7_tie_119 : decode cX7_tie 119 = .ok (.iload 4, 2) := by decide +kernel
theorem dX7_tie_121 : decode cX7_tie 121 = .ok (.iastore, 1) := by decide +kernel
theorem dX7_tie_122 : decode cX7_tie 122 = .ok (.aload_n 0, 1) := by decide +kernel
theorem dX7_tie_123 : decode cX7_tie 123 = .ok (.getfield 38, 3) := by decide +kernel
theorem dX7_tie_126 : decode cX7_tie 126 = .ok (.aload_n 0, 1) := by decide +kernel
theorem dX7_tie_127 : decode cX7_tie 127 = .ok (.getfield 121, 3) := by decide +kernel
theorem dX7_tie_130 : decode cX7_tie 130 = .ok (.aload_n 0, 1) := by decide +kernel
theorem dX7_tie_131 : decode cX7_tie 131 = .ok (.getfield 106, 3) := by decide +kernel
theorem dX7_tie_134 : decode cX7_tie 134 = .ok (.iastore, 1) := by decide +kernel
theorem dX7_tie_135 : decode cX7_tie 135 = .ok (.aload_n 0, 1) := by decide +kernel
theorem dX7_tie_136 : decode cX7_tie 136 = .ok (.dup, 1) := by decide +kernel
theorem dX7_tie_137 : decode cX7_tie 137 = .ok (.getfield 121, 3) := by decide +kernel
theorem dX7_tie_140 : decode cX7_tie 140 = .ok (.iconst 1, 1) := by decide +kernel
theorem dX7_tie_141 : decode cX7_tie 141 = .ok (.iadd, 1) := by decide +kernel
theorem dX7_tie_142 : decode cX7_tie 142 = .ok (.putfield 121, 3) := by decide +kernel
theorem dX7_tie_145 : decode cX7_tie 145 = .ok (.aload_n 0, 1) := by decide +kernel
theorem dX7_tie_146 : decode cX7_tie 146 = .ok (.getfield 121, 3) := by decide +kernel
theorem dX7_tie_149 : decode cX7_tie 149 = .ok (.iconst 1, 1) := by decide +kernel
theorem dX7_tie_150 : decode cX7_tie 150 = .ok (.isub, 1) := by decide +kernel
theorem dX7_tie_151 : decode cX7_tie 151 = .ok (.ireturn, 1) := by decide +kernel
theorem dX7_faded_0 : decode cX7_faded 0 = .ok (.bipush 100, 2) := by decide +kernel
theorem dX7_faded_2 : decode cX7_faded 2 = .ok (.iload_n 1, 1) := by decide +kernel
theorem dX7_faded_3 : decode cX7_faded 3 = .ok (.iload_n 2, 1) := by decide +kernel
theorem dX7_faded_4 : decode cX7_faded 4 = .ok (.imul, 1) := by decide +kernel
theorem dX7_faded_5 : decode cX7_faded 5 = .ok (.bipush 100, 2) := by decide +kernel
theorem dX7_faded_7 : decode cX7_faded 7 = .ok (.idiv, 1) := by decide +kernel
theorem dX7_faded_8 : decode cX7_faded 8 = .ok (.isub, 1) := by decide +kernel
theorem dX7_faded_9 : decode cX7_faded 9 = .ok (.istore_n 3, 1) := by decide +kernel
theorem dX7_faded_10 : decode cX7_faded 10 = .ok (.iload_n 3, 1) := by decide +kernel
theorem dX7_faded_11 : decode cX7_faded 11 = .ok (.ifCond .ge 7, 3) := by decide +kernel
theorem dX7_faded_14 : decode cX7_faded 14 = .ok (.iconst 0, 1) := by decide +kernel
theorem dX7_faded_15 : decode cX7_faded 15 = .ok (.goto 9, 3) := by decide +kernel
theorem dX7_faded_18 : decode cX7_faded 18 = .ok (.iload_n 0, 1) := by decide +kernel
theorem dX7_faded_19 : decode cX7_faded 19 = .ok (.iload_n 3, 1) := by decide +kernel
theorem dX7_faded_20 : decode cX7_faded 20 = .ok (.imul, 1) := by decide +kernel
theorem dX7_faded_21 : decode cX7_faded 21 = .ok (.bipush 100, 2) := by decide +kernel
theorem dX7_faded_23 : decode cX7_faded 23 = .ok (.idiv, 1) := by decide +kernel
theorem dX7_faded_24 : decode cX7_faded 24 = .ok (.ireturn, 1) := by decide +kernel
theorem dX7_roomOf_0 : decode cX7_roomOf 0 = .ok (.aload_n 0, 1) := by decide +kernel
theorem dX7_roomOf_1 : decode cX7_roomOf 1 = .ok (.getfield 17, 3) := by decide +kernel
theorem dX7_roomOf_4 : decode cX7_roomOf 4 = .ok (.aload_n 0, 1) := by decide +kernel
theorem dX7_roomOf_5 : decode cX7_roomOf 5 = .ok (.getfield 26, 3) := by decide +kernel
theorem dX7_roomOf_8 : decode cX7_roomOf 8 = .ok (.iload_n 1, 1) := by decide +kernel
theorem dX7_roomOf_9 : decode cX7_roomOf 9 = .ok (.iaload, 1) := by decide +kernel
theorem dX7_roomOf_10 : decode cX7_roomOf 10 = .ok (.baload, 1) := by decide +kernel
theorem dX7_roomOf_11 : decode cX7_roomOf 11 = .ok (.ifCond .ne 17, 3) := by decide +kernel
theorem dX7_roomOf_14 : decode cX7_roomOf 14 = .ok (.aload_n 0, 1) := by decide +kernel
theorem dX7_roomOf_15 : decode cX7_roomOf 15 = .ok (.getfield 17, 3) := by decide +kernel
theorem dX7_roomOf_18 : decode cX7_roomOf 18 = .ok (.aload_n 0, 1) := by decide +kernel
theorem dX7_roomOf_19 : decode cX7_roomOf 19 = .ok (.getfield 29, 3) := by decide +kernel
theorem dX7_roomOf_22 : decode cX7_roomOf 22 = .ok (.iload_n 1, 1) := by decide +kernel
theorem dX7_roomOf_23 : decode cX7_roomOf 23 = .ok (.iaload, 1) := by decide +kernel
theorem dX7_roomOf_24 : decode cX7_roomOf 24 = .ok (.baload, 1) := by decide +kernel
theorem dX7_roomOf_25 : decode cX7_roomOf 25 = .ok (.ifCond .eq 5, 3) := by decide +kernel
theorem dX7_roomOf_28 : decode cX7_roomOf 28 = .ok (.iconst 0, 1) := by decide +kernel
theorem dX7_roomOf_29 : decode cX7_roomOf 29 = .ok (.ireturn, 1) := by decide +kernel
theorem dX7_roomOf_30 : decode cX7_roomOf 30 = .ok (.aload_n 0, 1) := by decide +kernel
theorem dX7_roomOf_31 : decode cX7_roomOf 31 = .ok (.getfield 32, 3) := by decide +kernel
theorem dX7_roomOf_34 : decode cX7_roomOf 34 = .ok (.iload_n 1, 1) := by decide +kernel
theorem dX7_roomOf_35 : decode cX7_roomOf 35 = .ok (.iaload, 1) := by decide +kernel
theorem dX7_roomOf_36 : decode cX7_roomOf 36 = .ok (.aload_n 0, 1) := by decide +kernel
theorem dX7_roomOf_37 : decode cX7_roomOf 37 = .ok (.getfield 41, 3) := by decide +kernel
theorem dX7_roomOf_40 : decode cX7_roomOf 40 = .ok (.aload_n 0, 1) := by decide +kernel
theorem dX7_roomOf_41 : decode cX7_roomOf 41 = .ok (.getfield 35, 3) := by decide +kernel
theorem dX7_roomOf_44 : decode cX7_roomOf 44 = .ok (.iload_n 1, 1) := by decide +kernel
theorem dX7_roomOf_45 : decode cX7_roomOf 45 = .ok (.iaload, 1) := by decide +kernel
theorem dX7_roomOf_46 : decode cX7_roomOf 46 = .ok (.iaload, 1) := by decide +kernel
theorem dX7_roomOf_47 : decode cX7_roomOf 47 = .ok (.imul, 1) := by decide +kernel
theorem dX7_roomOf_48 : decode cX7_roomOf 48 = .ok (.bipush 100, 2) := by decide +kernel
theorem dX7_roomOf_50 : decode cX7_roomOf 50 = .ok (.idiv, 1) := by decide +kernel
theorem dX7_roomOf_51 : decode cX7_roomOf 51 = .ok (.aload_n 0, 1) := by decide +kernel
theorem dX7_roomOf_52 : decode cX7_roomOf 52 = .ok (.getfield 41, 3) := by decide +kernel
theorem dX7_roomOf_55 : decode cX7_roomOf 55 = .ok (.iconst 4, 1) := by decide +kernel
theorem dX7_roomOf_56 : decode cX7_roomOf 56 = .ok (.iaload, 1) := by decide +kernel
theorem dX7_roomOf_57 : decode cX7_roomOf 57 = .ok (.aload_n 0, 1) := by decide +kernel
theorem dX7_roomOf_58 : decode cX7_roomOf 58 = .ok (.getfield 106, 3) := by decide +kernel
theorem dX7_roomOf_61 : decode cX7_roomOf 61 = .ok (.aload_n 0, 1) := by decide +kernel
theorem dX7_roomOf_62 : decode cX7_roomOf 62 = .ok (.getfield 38, 3) := by decide +kernel
theorem dX7_roomOf_65 : decode cX7_roomOf 65 = .ok (.iload_n 1, 1) := by decide +kernel
theorem dX7_roomOf_66 : decode cX7_roomOf 66 = .ok (.iaload, 1) := by decide +kernel
theorem dX7_roomOf_67 : decode cX7_roomOf 67 = .ok (.isub, 1) := by decide +kernel
theorem dX7_roomOf_68 : decode cX7_roomOf 68 = .ok (.invokestatic 124, 3) := by decide +kernel
theorem dX7_roomOf_71 : decode cX7_roomOf 71 = .ok (.istore_n 2, 1) := by decide +kernel
theorem dX7_roomOf_72 : decode cX7_roomOf 72 = .ok (.aload_n 0, 1) := by decide +kernel
theorem dX7_roomOf_73 : decode cX7_roomOf 73 = .ok (.aload_n 0, 1) := by decide +kernel
theorem dX7_roomOf_74 : decode cX7_roomOf 74 = .ok (.getfield 26, 3) := by decide +kernel
theorem dX7_roomOf_77 : decode cX7_roomOf 77 = .ok (.iload_n 1, 1) := by decide +kernel
theorem dX7_roomOf_78 : decode cX7_roomOf 78 = .ok (.iaload, 1) := by decide +kernel
theorem dX7_roomOf_79 : decode cX7_roomOf 79 = .ok (.invokevirtual 128, 3) := by decide +kernel
theorem dX7_roomOf_82 : decode cX7_roomOf 82 = .ok (.ifCond .ne 16, 3) := by decide +kernel
theorem dX7_roomOf_85 : decode cX7_roomOf 85 = .ok (.aload_n 0, 1) := by decide +kernel
theorem dX7_roomOf_86 : decode cX7_roomOf 86 = .ok (.aload_n 0, 1) := by decide +kernel
theorem dX7_roomOf_87 : decode cX7_roomOf 87 = .ok (.getfield 29, 3) := by decide +kernel
theorem dX7_roomOf_90 : decode cX7_roomOf 90 = .ok (.iload_n 1, 1) := by decide +kernel
theorem dX7_roomOf_91 : decode cX7_roomOf 91 = .ok (.iaload, 1) := by decide +kernel
theorem dX7_roomOf_92 : decode cX7_roomOf 92 = .ok (.invokevirtual 128, 3) := by decide +kernel
theorem dX7_roomOf_95 : decode cX7_roomOf 95 = .ok (.ifCond .eq 9, 3) := by decide +kernel
theorem dX7_roomOf_98 : decode cX7_roomOf 98 = .ok (.iload_n 2, 1) := by decide +kernel
theorem dX7_roomOf_99 : decode cX7_roomOf 99 = .ok (.iconst 2, 1) := by decide +kernel
theorem dX7_roomOf_100 : decode cX7_roomOf 100 = .ok (.idiv, 1) := by decide +kernel
theorem dX7_roomOf_101 : decode cX7_roomOf 101 = .ok (.goto 4, 3) := by decide +kernel
theorem dX7_roomOf_104 : decode cX7_roomOf 104 = .ok (.iload_n 2, 1) := by decide +kernel
theorem dX7_roomOf_105 : decode cX7_roomOf 105 = .ok (.ireturn, 1) := by decide +kernel
theorem dX7_isTie_0 : decode cX7_isTie 0 = .ok (.iload_n 1, 1) := by decide +kernel
theorem dX7_isTie_1 : decode cX7_isTie 1 = .ok (.i2l, 1) := by decide +kernel
theorem dX7_isTie_2 : decode cX7_isTie 2 = .ok (.lconst 0, 1) := by decide +kernel
theorem dX7_isTie_3 : decode cX7_isTie 3 = .ok (.aload_n 0, 1) := by decide +kernel
theorem dX7_isTie_4 : decode cX7_isTie 4 = .ok (.getfield 121, 3) := by decide +kernel
theorem dX7_isTie_7 : decode cX7_isTie 7 = .ok (.iconst 1, 1) := by decide +kernel
theorem dX7_isTie_8 : decode cX7_isTie 8 = .ok (.isub, 1) := by decide +kernel
theorem dX7_isTie_9 : decode cX7_isTie 9 = .ok (.i2l, 1) := by decide +kernel
theorem dX7_isTie_10 : decode cX7_isTie 10 = .ok (.invokestatic 102, 3) := by decide +kernel
theorem dX7_isTie_13 : decode cX7_isTie 13 = .ok (.ireturn, 1) := by decide +kernel
theorem dX7_tieOf_0 : decode cX7_tieOf 0 = .ok (.aload_n 0, 1) := by decide +kernel
theorem dX7_tieOf_1 : decode cX7_tieOf 1 = .ok (.iload_n 1, 1) := by decide +kernel
theorem dX7_tieOf_2 : decode cX7_tieOf 2 = .ok (.invokevirtual 131, 3) := by decide +kernel
theorem dX7_tieOf_5 : decode cX7_tieOf 5 = .ok (.ifCond .eq 15, 3) := by decide +kernel
theorem dX7_tieOf_8 : decode cX7_tieOf 8 = .ok (.iload_n 2, 1) := by decide +kernel
theorem dX7_tieOf_9 : decode cX7_tieOf 9 = .ok (.i2l, 1) := by decide +kernel
theorem dX7_tieOf_10 : decode cX7_tieOf 10 = .ok (.lconst 0, 1) := by decide +kernel
theorem dX7_tieOf_11 : decode cX7_tieOf 11 = .ok (.ldc2_w 134, 3) := by decide +kernel
theorem dX7_tieOf_14 : decode cX7_tieOf 14 = .ok (.invokestatic 102, 3) := by decide +kernel
theorem dX7_tieOf_17 : decode cX7_tieOf 17 = .ok (.ifCond .ne 5, 3) := by decide +kernel
theorem dX7_tieOf_20 : decode cX7_tieOf 20 = .ok (.iconst (-1), 1) := by decide +kernel
theorem dX7_tieOf_21 : decode cX7_tieOf 21 = .ok (.ireturn, 1) := by decide +kernel
theorem dX7_tieOf_22 : decode cX7_tieOf 22 = .ok (.iload_n 2, 1) := by decide +kernel
theorem dX7_tieOf_23 : decode cX7_tieOf 23 = .ok (.ifCond .ne 12, 3) := by decide +kernel
theorem dX7_tieOf_26 : decode cX7_tieOf 26 = .ok (.aload_n 0, 1) := by decide +kernel
theorem dX7_tieOf_27 : decode cX7_tieOf 27 = .ok (.getfield 26, 3) := by decide +kernel
theorem dX7_tieOf_30 : decode cX7_tieOf 30 = .ok (.iload_n 1, 1) := by decide +kernel
theorem dX7_tieOf_31 : decode cX7_tieOf 31 = .ok (.iaload, 1) := by decide +kernel
theorem dX7_tieOf_32 : decode cX7_tieOf 32 = .ok (.goto 64, 3) := by decide +kernel
theorem dX7_tieOf_35 : decode cX7_tieOf 35 = .ok (.iload_n 2, 1) := by decide +kernel
theorem dX7_tieOf_36 : decode cX7_tieOf 36 = .ok (.iconst 1, 1) := by decide +kernel
theorem dX7_tieOf_37 : decode cX7_tieOf 37 = .ok (.if_icmp .ne 12, 3) := by decide +kernel
theorem dX7_tieOf_40 : decode cX7_tieOf 40 = .ok (.aload_n 0, 1) := by decide +kernel
theorem dX7_tieOf_41 : decode cX7_tieOf 41 = .ok (.getfield 29, 3) := by decide +kernel
theorem dX7_tieOf_44 : decode cX7_tieOf 44 = .ok (.iload_n 1, 1) := by decide +kernel
theorem dX7_tieOf_45 : decode cX7_tieOf 45 = .ok (.iaload, 1) := by decide +kernel
theorem dX7_tieOf_46 : decode cX7_tieOf 46 = .ok (.goto 50, 3) := by decide +kernel
theorem dX7_tieOf_49 : decode cX7_tieOf 49 = .ok (.iload_n 2, 1) := by decide +kernel
theorem dX7_tieOf_50 : decode cX7_tieOf 50 = .ok (.iconst 2, 1) := by decide +kernel
theorem dX7_tieOf_51 : decode cX7_tieOf 51 = .ok (.if_icmp .ne 12, 3) := by decide +kernel
theorem dX7_tieOf_54 : decode cX7_tieOf 54 = .ok (.aload_n 0, 1) := by decide +kernel
theorem dX7_tieOf_55 : decode cX7_tieOf 55 = .ok (.getfield 32, 3) := by decide +kernel
theorem dX7_tieOf_58 : decode cX7_tieOf 58 = .ok (.iload_n 1, 1) := by decide +kernel
theorem dX7_tieOf_59 : decode cX7_tieOf 59 = .ok (.iaload, 1) := by decide +kernel
theorem dX7_tieOf_60 : decode cX7_tieOf 60 = .ok (.goto 36, 3) := by decide +kernel
theorem dX7_tieOf_63 : decode cX7_tieOf 63 = .ok (.iload_n 2, 1) := by decide +kernel
theorem dX7_tieOf_64 : decode cX7_tieOf 64 = .ok (.iconst 3, 1) := by decide +kernel
theorem dX7_tieOf_65 : decode cX7_tieOf 65 = .ok (.if_icmp .ne 12, 3) := by decide +kernel
theorem dX7_tieOf_68 : decode cX7_tieOf 68 = .ok (.aload_n 0, 1) := by decide +kernel
theorem dX7_tieOf_69 : decode cX7_tieOf 69 = .ok (.getfield 35, 3) := by decide +kernel
theorem dX7_tieOf_72 : decode cX7_tieOf 72 = .ok (.iload_n 1, 1) := by decide +kernel
theorem dX7_tieOf_73 : decode cX7_tieOf 73 = .ok (.iaload, 1) := by decide +kernel
theorem dX7_tieOf_74 : decode cX7_tieOf 74 = .ok (.goto 22, 3) := by decide +kernel
theorem dX7_tieOf_77 : decode cX7_tieOf 77 = .ok (.iload_n 2, 1) := by decide +kernel
theorem dX7_tieOf_78 : decode cX7_tieOf 78 = .ok (.iconst 4, 1) := by decide +kernel
theorem dX7_tieOf_79 : decode cX7_tieOf 79 = .ok (.if_icmp .ne 12, 3) := by decide +kernel
theorem dX7_tieOf_82 : decode cX7_tieOf 82 = .ok (.aload_n 0, 1) := by decide +kernel
theorem dX7_tieOf_83 : decode cX7_tieOf 83 = .ok (.getfield 38, 3) := by decide +kernel
theorem dX7_tieOf_86 : decode cX7_tieOf 86 = .ok (.iload_n 1, 1) := by decide +kernel
theorem dX7_tieOf_87 : decode cX7_tieOf 87 = .ok (.iaload, 1) := by decide +kernel
theorem dX7_tieOf_88 : decode cX7_tieOf 88 = .ok (.goto 8, 3) := by decide +kernel
theorem dX7_tieOf_91 : decode cX7_tieOf 91 = .ok (.aload_n 0, 1) := by decide +kernel
theorem dX7_tieOf_92 : decode cX7_tieOf 92 = .ok (.iload_n 1, 1) := by decide +kernel
theorem dX7_tieOf_93 : decode cX7_tieOf 93 = .ok (.invokevirtual 136, 3) := by decide +kernel
theorem dX7_tieOf_96 : decode cX7_tieOf 96 = .ok (.ireturn, 1) := by decide +kernel
theorem dX7_renew_0 : decode cX7_renew 0 = .ok (.aload_n 0, 1) := by decide +kernel
theorem dX7_renew_1 : decode cX7_renew 1 = .ok (.iload_n 1, 1) := by decide +kernel
theorem dX7_renew_2 : decode cX7_renew 2 = .ok (.invokevirtual 131, 3) := by decide +kernel
theorem dX7_renew_5 : decode cX7_renew 5 = .ok (.ifCond .ne 5, 3) := by decide +kernel
theorem dX7_renew_8 : decode cX7_renew 8 = .ok (.iconst (-1), 1) := by decide +kernel
theorem dX7_renew_9 : decode cX7_renew 9 = .ok (.ireturn, 1) := by decide +kernel
theorem dX7_renew_10 : decode cX7_renew 10 = .ok (.aload_n 0, 1) := by decide +kernel
theorem dX7_renew_11 : decode cX7_renew 11 = .ok (.getfield 17, 3) := by decide +kernel
theorem dX7_renew_14 : decode cX7_renew 14 = .ok (.aload_n 0, 1) := by decide +kernel
theorem dX7_renew_15 : decode cX7_renew 15 = .ok (.getfield 26, 3) := by decide +kernel
theorem dX7_renew_18 : decode cX7_renew 18 = .ok (.iload_n 1, 1) := by decide +kernel
theorem dX7_renew_19 : decode cX7_renew 19 = .ok (.iaload, 1) := by decide +kernel
theorem dX7_renew_20 : decode cX7_renew 20 = .ok (.baload, 1) := by decide +kernel
theorem dX7_renew_21 : decode cX7_renew 21 = .ok (.ifCond .ne 17, 3) := by decide +kernel
theorem dX7_renew_24 : decode cX7_renew 24 = .ok (.aload_n 0, 1) := by decide +kernel
theorem dX7_renew_25 : decode cX7_renew 25 = .ok (.getfield 17, 3) := by decide +kernel
theorem dX7_renew_28 : decode cX7_renew 28 = .ok (.aload_n 0, 1) := by decide +kernel
theorem dX7_renew_29 : decode cX7_renew 29 = .ok (.getfield 29, 3) := by decide +kernel
theorem dX7_renew_32 : decode cX7_renew 32 = .ok (.iload_n 1, 1) := by decide +kernel
theorem dX7_renew_33 : decode cX7_renew 33 = .ok (.iaload, 1) := by decide +kernel
theorem dX7_renew_34 : decode cX7_renew 34 = .ok (.baload, 1) := by decide +kernel
theorem dX7_renew_35 : decode cX7_renew 35 = .ok (.ifCond .eq 6, 3) := by decide +kernel
theorem dX7_renew_38 : decode cX7_renew 38 = .ok (.bipush (-2), 2) := by decide +kernel
theorem dX7_renew_40 : decode cX7_renew 40 = .ok (.ireturn, 1) := by decide +kernel
theorem dX7_renew_41 : decode cX7_renew 41 = .ok (.aload_n 0, 1) := by decide +kernel
theorem dX7_renew_42 : decode cX7_renew 42 = .ok (.getfield 106, 3) := by decide +kernel
theorem dX7_renew_45 : decode cX7_renew 45 = .ok (.aload_n 0, 1) := by decide +kernel
theorem dX7_renew_46 : decode cX7_renew 46 = .ok (.getfield 38, 3) := by decide +kernel
theorem dX7_renew_49 : decode cX7_renew 49 = .ok (.iload_n 1, 1) := by decide +kernel
theorem dX7_renew_50 : decode cX7_renew 50 = .ok (.iaload, 1) := by decide +kernel
theorem dX7_renew_51 : decode cX7_renew 51 = .ok (.isub, 1) := by decide +kernel
theorem dX7_renew_52 : decode cX7_renew 52 = .ok (.istore_n 2, 1) := by decide +kernel
theorem dX7_renew_53 : decode cX7_renew 53 = .ok (.aload_n 0, 1) := by decide +kernel
theorem dX7_renew_54 : decode cX7_renew 54 = .ok (.getfield 38, 3) := by decide +kernel
theorem dX7_renew_57 : decode cX7_renew 57 = .ok (.iload_n 1, 1) := by decide +kernel
theorem dX7_renew_58 : decode cX7_renew 58 = .ok (.aload_n 0, 1) := by decide +kernel
theorem dX7_renew_59 : decode cX7_renew 59 = .ok (.getfield 106, 3) := by decide +kernel
theorem dX7_renew_62 : decode cX7_renew 62 = .ok (.iastore, 1) := by decide +kernel
theorem dX7_renew_63 : decode cX7_renew 63 = .ok (.iload_n 2, 1) := by decide +kernel
theorem dX7_renew_64 : decode cX7_renew 64 = .ok (.ireturn, 1) := by decide +kernel
theorem dX7_given_0 : decode cX7_given 0 = .ok (.aload_n 0, 1) := by decide +kernel
theorem dX7_given_1 : decode cX7_given 1 = .ok (.getfield 17, 3) := by decide +kernel
theorem dX7_given_4 : decode cX7_given 4 = .ok (.iload_n 1, 1) := by decide +kernel
theorem dX7_given_5 : decode cX7_given 5 = .ok (.baload, 1) := by decide +kernel
theorem dX7_given_6 : decode cX7_given 6 = .ok (.ifCond .eq 7, 3) := by decide +kernel
theorem dX7_given_9 : decode cX7_given 9 = .ok (.iconst 0, 1) := by decide +kernel
theorem dX7_given_10 : decode cX7_given 10 = .ok (.goto 29, 3) := by decide +kernel
theorem dX7_given_13 : decode cX7_given 13 = .ok (.aload_n 0, 1) := by decide +kernel
theorem dX7_given_14 : decode cX7_given 14 = .ok (.iload_n 1, 1) := by decide +kernel
theorem dX7_given_15 : decode cX7_given 15 = .ok (.invokevirtual 115, 3) := by decide +kernel
theorem dX7_given_18 : decode cX7_given 18 = .ok (.aload_n 0, 1) := by decide +kernel
theorem dX7_given_19 : decode cX7_given 19 = .ok (.getfield 13, 3) := by decide +kernel
theorem dX7_given_22 : decode cX7_given 22 = .ok (.iload_n 1, 1) := by decide +kernel
theorem dX7_given_23 : decode cX7_given 23 = .ok (.baload, 1) := by decide +kernel
theorem dX7_given_24 : decode cX7_given 24 = .ok (.ifCond .eq 13, 3) := by decide +kernel
theorem dX7_given_27 : decode cX7_given 27 = .ok (.aload_n 0, 1) := by decide +kernel
theorem dX7_given_28 : decode cX7_given 28 = .ok (.getfield 41, 3) := by decide +kernel
theorem dX7_given_31 : decode cX7_given 31 = .ok (.bipush 6, 2) := by decide +kernel
theorem dX7_given_33 : decode cX7_given 33 = .ok (.iaload, 1) := by decide +kernel
theorem dX7_given_34 : decode cX7_given 34 = .ok (.goto 4, 3) := by decide +kernel
theorem dX7_given_37 : decode cX7_given 37 = .ok (.iconst 0, 1) := by decide +kernel
theorem dX7_given_38 : decode cX7_given 38 = .ok (.iadd, 1) := by decide +kernel
theorem dX7_given_39 : decode cX7_given 39 = .ok (.ireturn, 1) := by decide +kernel
theorem dX7_of_0 : decode cX7_of 0 = .ok (.aload_n 0, 1) := by decide +kernel
theorem dX7_of_1 : decode cX7_of 1 = .ok (.iload_n 1, 1) := by decide +kernel
theorem dX7_of_2 : decode cX7_of 2 = .ok (.invokevirtual 111, 3) := by decide +kernel
theorem dX7_of_5 : decode cX7_of 5 = .ok (.ifCond .eq 15, 3) := by decide +kernel
theorem dX7_of_8 : decode cX7_of 8 = .ok (.iload_n 2, 1) := by decide +kernel
theorem dX7_of_9 : decode cX7_of 9 = .ok (.i2l, 1) := by decide +kernel
theorem dX7_of_10 : decode cX7_of 10 = .ok (.lconst 0, 1) := by decide +kernel
theorem dX7_of_11 : decode cX7_of 11 = .ok (.ldc2_w 139, 3) := by decide +kernel
theorem dX7_of_14 : decode cX7_of 14 = .ok (.invokestatic 102, 3) := by decide +kernel
theorem dX7_of_17 : decode cX7_of 17 = .ok (.ifCond .ne 5, 3) := by decide +kernel
theorem dX7_of_20 : decode cX7_of 20 = .ok (.iconst (-1), 1) := by decide +kernel
theorem dX7_of_21 : decode cX7_of 21 = .ok (.ireturn, 1) := by decide +kernel
theorem dX7_of_22 : decode cX7_of 22 = .ok (.iconst 0, 1) := by decide +kernel
theorem dX7_of_23 : decode cX7_of 23 = .ok (.istore_n 3, 1) := by decide +kernel
theorem dX7_of_24 : decode cX7_of 24 = .ok (.iconst 0, 1) := by decide +kernel
theorem dX7_of_25 : decode cX7_of 25 = .ok (.istore 4, 2) := by decide +kernel
theorem dX7_of_27 : decode cX7_of 27 = .ok (.iload 4, 2) := by decide +kernel
theorem dX7_of_29 : decode cX7_of 29 = .ok (.aload_n 0, 1) := by decide +kernel
theorem dX7_of_30 : decode cX7_of 30 = .ok (.getfield 121, 3) := by decide +kernel
theorem dX7_of_33 : decode cX7_of 33 = .ok (.if_icmp .ge 48, 3) := by decide +kernel
theorem dX7_of_36 : decode cX7_of 36 = .ok (.iload_n 3, 1) := by decide +kernel
theorem dX7_of_37 : decode cX7_of 37 = .ok (.aload_n 0, 1) := by decide +kernel
theorem dX7_of_38 : decode cX7_of 38 = .ok (.getfield 26, 3) := by decide +kernel
theorem dX7_of_41 : decode cX7_of 41 = .ok (.iload 4, 2) := by decide +kernel
theorem dX7_of_43 : decode cX7_of 43 = .ok (.iaload, 1) := by decide +kernel
theorem dX7_of_44 : decode cX7_of 44 = .ok (.iload_n 1, 1) := by decide +kernel
theorem dX7_of_45 : decode cX7_of 45 = .ok (.if_icmp .eq 14, 3) := by decide +kernel
theorem dX7_of_48 : decode cX7_of 48 = .ok (.aload_n 0, 1) := by decide +kernel
theorem dX7_of_49 : decode cX7_of 49 = .ok (.getfield 29, 3) := by decide +kernel
theorem dX7_of_52 : decode cX7_of 52 = .ok (.iload 4, 2) := by decide +kernel
theorem dX7_of_54 : decode cX7_of 54 = .ok (.iaload, 1) := by decide +kernel
theorem dX7_of_55 : decode cX7_of 55 = .ok (.iload_n 1, 1) := by decide +kernel
theorem dX7_of_56 : decode cX7_of 56 = .ok (.if_icmp .ne 16, 3) := by decide +kernel
theorem dX7_of_59 : decode cX7_of 59 = .ok (.aload_n 0, 1) := by decide +kernel
theorem dX7_of_60 : decode cX7_of 60 = .ok (.iload 4, 2) := by decide +kernel
theorem dX7_of_62 : decode cX7_of 62 = .ok (.invokevirtual 136, 3) := by decide +kernel
theorem dX7_of_65 : decode cX7_of 65 = .ok (.ifCond .le 7, 3) := by decide +kernel
theorem dX7_of_68 : decode cX7_of 68 = .ok (.iconst 1, 1) := by decide +kernel
theorem dX7_of_69 : decode cX7_of 69 = .ok (.goto 4, 3) := by decide +kernel
theorem dX7_of_72 : decode cX7_of 72 = .ok (.iconst 0, 1) := by decide +kernel
theorem dX7_of_73 : decode cX7_of 73 = .ok (.iadd, 1) := by decide +kernel
theorem dX7_of_74 : decode cX7_of 74 = .ok (.istore_n 3, 1) := by decide +kernel
theorem dX7_of_75 : decode cX7_of 75 = .ok (.iinc 4 1, 3) := by decide +kernel
theorem dX7_of_78 : decode cX7_of 78 = .ok (.goto (-51), 3) := by decide +kernel
theorem dX7_of_81 : decode cX7_of 81 = .ok (.iload_n 2, 1) := by decide +kernel
theorem dX7_of_82 : decode cX7_of 82 = .ok (.tableswitch 102 0 5 #[38, 45, 60, 75, 89, 96], 38) := by decide +kernel
theorem dX7_of_120 : decode cX7_of 120 = .ok (.aload_n 0, 1) := by decide +kernel
theorem dX7_of_121 : decode cX7_of 121 = .ok (.getfield 7, 3) := by decide +kernel
theorem dX7_of_124 : decode cX7_of 124 = .ok (.iload_n 1, 1) := by decide +kernel
theorem dX7_of_125 : decode cX7_of 125 = .ok (.iaload, 1) := by decide +kernel
theorem dX7_of_126 : decode cX7_of 126 = .ok (.ireturn, 1) := by decide +kernel
theorem dX7_of_127 : decode cX7_of 127 = .ok (.aload_n 0, 1) := by decide +kernel
theorem dX7_of_128 : decode cX7_of 128 = .ok (.getfield 13, 3) := by decide +kernel
theorem dX7_of_131 : decode cX7_of 131 = .ok (.iload_n 1, 1) := by decide +kernel
theorem dX7_of_132 : decode cX7_of 132 = .ok (.baload, 1) := by decide +kernel
theorem dX7_of_133 : decode cX7_of 133 = .ok (.ifCond .eq 7, 3) := by decide +kernel
theorem dX7_of_136 : decode cX7_of 136 = .ok (.iconst 1, 1) := by decide +kernel
theorem dX7_of_137 : decode cX7_of 137 = .ok (.goto 4, 3) := by decide +kernel
theorem dX7_of_140 : decode cX7_of 140 = .ok (.iconst 0, 1) := by decide +kernel
theorem dX7_of_141 : decode cX7_of 141 = .ok (.ireturn, 1) := by decide +kernel
theorem dX7_of_142 : decode cX7_of 142 = .ok (.aload_n 0, 1) := by decide +kernel
theorem dX7_of_143 : decode cX7_of 143 = .ok (.getfield 17, 3) := by decide +kernel
theorem dX7_of_146 : decode cX7_of 146 = .ok (.iload_n 1, 1) := by decide +kernel
theorem dX7_of_147 : decode cX7_of 147 = .ok (.baload, 1) := by decide +kernel
theorem dX7_of_148 : decode cX7_of 148 = .ok (.ifCond .eq 7, 3) := by decide +kernel
theorem dX7_of_151 : decode cX7_of 151 = .ok (.iconst 1, 1) := by decide +kernel
theorem dX7_of_152 : decode cX7_of 152 = .ok (.goto 4, 3) := by decide +kernel
theorem dX7_of_155 : decode cX7_of 155 = .ok (.iconst 0, 1) := by decide +kernel
theorem dX7_of_156 : decode cX7_of 156 = .ok (.ireturn, 1) := by decide +kernel
theorem dX7_of_157 : decode cX7_of 157 = .ok (.aload_n 0, 1) := by decide +kernel
theorem dX7_of_158 : decode cX7_of 158 = .ok (.iload_n 1, 1) := by decide +kernel
theorem dX7_of_159 : decode cX7_of 159 = .ok (.invokevirtual 128, 3) := by decide +kernel
theorem dX7_of_162 : decode cX7_of 162 = .ok (.ifCond .eq 7, 3) := by decide +kernel
theorem dX7_of_165 : decode cX7_of 165 = .ok (.iconst 1, 1) := by decide +kernel
theorem dX7_of_166 : decode cX7_of 166 = .ok (.goto 4, 3) := by decide +kernel
theorem dX7_of_169 : decode cX7_of 169 = .ok (.iconst 0, 1) := by decide +kernel
theorem dX7_of_170 : decode cX7_of 170 = .ok (.ireturn, 1) := by decide +kernel
theorem dX7_of_171 : decode cX7_of 171 = .ok (.aload_n 0, 1) := by decide +kernel
theorem dX7_of_172 : decode cX7_of 172 = .ok (.getfield 20, 3) := by decide +kernel
theorem dX7_of_175 : decode cX7_of 175 = .ok (.iload_n 1, 1) := by decide +kernel
theorem dX7_of_176 : decode cX7_of 176 = .ok (.iaload, 1) := by decide +kernel
theorem dX7_of_177 : decode cX7_of 177 = .ok (.ireturn, 1) := by decide +kernel
theorem dX7_of_178 : decode cX7_of 178 = .ok (.aload_n 0, 1) := by decide +kernel
theorem dX7_of_179 : decode cX7_of 179 = .ok (.iload_n 1, 1) := by decide +kernel
theorem dX7_of_180 : decode cX7_of 180 = .ok (.invokevirtual 141, 3) := by decide +kernel
theorem dX7_of_183 : decode cX7_of 183 = .ok (.ireturn, 1) := by decide +kernel
theorem dX7_of_184 : decode cX7_of 184 = .ok (.iload_n 3, 1) := by decide +kernel
theorem dX7_of_185 : decode cX7_of 185 = .ok (.ireturn, 1) := by decide +kernel
theorem dX7_made_0 : decode cX7_made 0 = .ok (.aload_n 0, 1) := by decide +kernel
theorem dX7_made_1 : decode cX7_made 1 = .ok (.iload_n 1, 1) := by decide +kernel
theorem dX7_made_2 : decode cX7_made 2 = .ok (.invokevirtual 111, 3) := by decide +kernel
theorem dX7_made_5 : decode cX7_made 5 = .ok (.ifCond .ne 5, 3) := by decide +kernel
theorem dX7_made_8 : decode cX7_made 8 = .ok (.iconst (-1), 1) := by decide +kernel
theorem dX7_made_9 : decode cX7_made 9 = .ok (.ireturn, 1) := by decide +kernel
theorem dX7_made_10 : decode cX7_made 10 = .ok (.aload_n 0, 1) := by decide +kernel
theorem dX7_made_11 : decode cX7_made 11 = .ok (.getfield 17, 3) := by decide +kernel
theorem dX7_made_14 : decode cX7_made 14 = .ok (.iload_n 1, 1) := by decide +kernel
theorem dX7_made_15 : decode cX7_made 15 = .ok (.baload, 1) := by decide +kernel
theorem dX7_made_16 : decode cX7_made 16 = .ok (.ifCond .eq 6, 3) := by decide +kernel
theorem dX7_made_19 : decode cX7_made 19 = .ok (.bipush (-2), 2) := by decide +kernel
theorem dX7_made_21 : decode cX7_made 21 = .ok (.ireturn, 1) := by decide +kernel
theorem dX7_made_22 : decode cX7_made 22 = .ok (.aload_n 0, 1) := by decide +kernel
theorem dX7_made_23 : decode cX7_made 23 = .ok (.getfield 17, 3) := by decide +kernel
theorem dX7_made_26 : decode cX7_made 26 = .ok (.iload_n 1, 1) := by decide +kernel
theorem dX7_made_27 : decode cX7_made 27 = .ok (.iconst 1, 1) := by decide +kernel
theorem dX7_made_28 : decode cX7_made 28 = .ok (.bastore, 1) := by decide +kernel
theorem dX7_made_29 : decode cX7_made 29 = .ok (.iconst 0, 1) := by decide +kernel
theorem dX7_made_30 : decode cX7_made 30 = .ok (.istore_n 2, 1) := by decide +kernel
theorem dX7_made_31 : decode cX7_made 31 = .ok (.iconst 0, 1) := by decide +kernel
theorem dX7_made_32 : decode cX7_made 32 = .ok (.istore_n 3, 1) := by decide +kernel
theorem dX7_made_33 : decode cX7_made 33 = .ok (.iload_n 3, 1) := by decide +kernel
theorem dX7_made_34 : decode cX7_made 34 = .ok (.aload_n 0, 1) := by decide +kernel
theorem dX7_made_35 : decode cX7_made 35 = .ok (.getfield 121, 3) := by decide +kernel
theorem dX7_made_38 : decode cX7_made 38 = .ok (.if_icmp .ge 58, 3) := by decide +kernel
theorem dX7_made_41 : decode cX7_made 41 = .ok (.iload_n 2, 1) := by decide +kernel
theorem dX7_made_42 : decode cX7_made 42 = .ok (.aload_n 0, 1) := by decide +kernel
theorem dX7_made_43 : decode cX7_made 43 = .ok (.getfield 35, 3) := by decide +kernel
theorem dX7_made_46 : decode cX7_made 46 = .ok (.iload_n 3, 1) := by decide +kernel
theorem dX7_made_47 : decode cX7_made 47 = .ok (.iaload, 1) := by decide +kernel
theorem dX7_made_48 : decode cX7_made 48 = .ok (.iconst 2, 1) := by decide +kernel
theorem dX7_made_49 : decode cX7_made 49 = .ok (.if_icmp .ne 38, 3) := by decide +kernel
theorem dX7_made_52 : decode cX7_made 52 = .ok (.aload_n 0, 1) := by decide +kernel
theorem dX7_made_53 : decode cX7_made 53 = .ok (.getfield 29, 3) := by decide +kernel
theorem dX7_made_56 : decode cX7_made 56 = .ok (.iload_n 3, 1) := by decide +kernel
theorem dX7_made_57 : decode cX7_made 57 = .ok (.iaload, 1) := by decide +kernel
theorem dX7_made_58 : decode cX7_made 58 = .ok (.iload_n 1, 1) := by decide +kernel
theorem dX7_made_59 : decode cX7_made 59 = .ok (.if_icmp .ne 28, 3) := by decide +kernel
theorem dX7_made_62 : decode cX7_made 62 = .ok (.aload_n 0, 1) := by decide +kernel
theorem dX7_made_63 : decode cX7_made 63 = .ok (.getfield 17, 3) := by decide +kernel
theorem dX7_made_66 : decode cX7_made 66 = .ok (.aload_n 0, 1) := by decide +kernel
theorem dX7_made_67 : decode cX7_made 67 = .ok (.getfield 26, 3) := by decide +kernel
theorem dX7_made_70 : decode cX7_made 70 = .ok (.iload_n 3, 1) := by decide +kernel
theorem dX7_made_71 : decode cX7_made 71 = .ok (.iaload, 1) := by decide +kernel
theorem dX7_made_72 : decode cX7_made 72 = .ok (.baload, 1) := by decide +kernel
theorem dX7_made_73 : decode cX7_made 73 = .ok (.ifCond .ne 14, 3) := by decide +kernel
theorem dX7_made_76 : decode cX7_made 76 = .ok (.iconst 1, 1) := by decide +kernel
theorem dX7_made_77 : decode cX7_made 77 = .ok (.aload_n 0, 1) := by decide +kernel
theorem dX7_made_78 : decode cX7_made 78 = .ok (.getfield 26, 3) := by decide +kernel
theorem dX7_made_81 : decode cX7_made 81 = .ok (.iload_n 3, 1) := by decide +kernel
theorem dX7_made_82 : decode cX7_made 82 = .ok (.iaload, 1) := by decide +kernel
theorem dX7_made_83 : decode cX7_made 83 = .ok (.ishl, 1) := by decide +kernel
theorem dX7_made_84 : decode cX7_made 84 = .ok (.goto 4, 3) := by decide +kernel
theorem dX7_made_87 : decode cX7_made 87 = .ok (.iconst 0, 1) := by decide +kernel
theorem dX7_made_88 : decode cX7_made 88 = .ok (.ior, 1) := by decide +kernel
theorem dX7_made_89 : decode cX7_made 89 = .ok (.istore_n 2, 1) := by decide +kernel
theorem dX7_made_90 : decode cX7_made 90 = .ok (.iinc 3 1, 3) := by decide +kernel
theorem dX7_made_93 : decode cX7_made 93 = .ok (.goto (-60), 3) := by decide +kernel
theorem dX7_made_96 : decode cX7_made 96 = .ok (.iconst 0, 1) := by decide +kernel
theorem dX7_made_97 : decode cX7_made 97 = .ok (.istore_n 3, 1) := by decide +kernel
theorem dX7_made_98 : decode cX7_made 98 = .ok (.iload_n 3, 1) := by decide +kernel
theorem dX7_made_99 : decode cX7_made 99 = .ok (.aload_n 0, 1) := by decide +kernel
theorem dX7_made_100 : decode cX7_made 100 = .ok (.getfield 98, 3) := by decide +kernel
theorem dX7_made_103 : decode cX7_made 103 = .ok (.if_icmp .ge 66, 3) := by decide +kernel
theorem dX7_made_106 : decode cX7_made 106 = .ok (.iload_n 2, 1) := by decide +kernel
theorem dX7_made_107 : decode cX7_made 107 = .ok (.iload_n 3, 1) := by decide +kernel
theorem dX7_made_108 : decode cX7_made 108 = .ok (.ishr, 1) := by decide +kernel
theorem dX7_made_109 : decode cX7_made 109 = .ok (.iconst 1, 1) := by decide +kernel
theorem dX7_made_110 : decode cX7_made 110 = .ok (.iand, 1) := by decide +kernel
theorem dX7_made_111 : decode cX7_made 111 = .ok (.iconst 1, 1) := by decide +kernel
theorem dX7_made_112 : decode cX7_made 112 = .ok (.if_icmp .ne 51, 3) := by decide +kernel
theorem dX7_made_115 : decode cX7_made 115 = .ok (.aload_n 0, 1) := by decide +kernel
theorem dX7_made_116 : decode cX7_made 116 = .ok (.getfield 20, 3) := by decide +kernel
theorem dX7_made_119 : decode cX7_made 119 = .ok (.iload_n 3, 1) := by decide +kernel
theorem dX7_made_120 : decode cX7_made 120 = .ok (.aload_n 0, 1) := by decide +kernel
theorem dX7_made_121 : decode cX7_made 121 = .ok (.getfield 106, 3) := by decide +kernel
theorem dX7_made_124 : decode cX7_made 124 = .ok (.aload_n 0, 1) := by decide +kernel
theorem dX7_made_125 : decode cX7_made 125 = .ok (.getfield 41, 3) := by decide +kernel
theorem dX7_made_128 : decode cX7_made 128 = .ok (.bipush 8, 2) := by decide +kernel
theorem dX7_made_130 : decode cX7_made 130 = .ok (.iaload, 1) := by decide +kernel
theorem dX7_made_131 : decode cX7_made 131 = .ok (.iadd, 1) := by decide +kernel
theorem dX7_made_132 : decode cX7_made 132 = .ok (.aload_n 0, 1) := by decide +kernel
theorem dX7_made_133 : decode cX7_made 133 = .ok (.getfield 20, 3) := by decide +kernel
theorem dX7_made_136 : decode cX7_made 136 = .ok (.iload_n 3, 1) := by decide +kernel
theorem dX7_made_137 : decode cX7_made 137 = .ok (.iaload, 1) := by decide +kernel
theorem dX7_made_138 : decode cX7_made 138 = .ok (.if_icmp .le 18, 3) := by decide +kernel
theorem dX7_made_141 : decode cX7_made 141 = .ok (.aload_n 0, 1) := by decide +kernel
theorem dX7_made_142 : decode cX7_made 142 = .ok (.getfield 106, 3) := by decide +kernel
theorem dX7_made_145 : decode cX7_made 145 = .ok (.aload_n 0, 1) := by decide +kernel
theorem dX7_made_146 : decode cX7_made 146 = .ok (.getfield 41, 3) := by decide +kernel
theorem dX7_made_149 : decode cX7_made 149 = .ok (.bipush 8, 2) := by decide +kernel
theorem dX7_made_151 : decode cX7_made 151 = .ok (.iaload, 1) := by decide +kernel
theorem dX7_made_152 : decode cX7_made 152 = .ok (.iadd, 1) := by decide +kernel
theorem dX7_made_153 : decode cX7_made 153 = .ok (.goto 9, 3) := by decide +kernel
theorem dX7_made_156 : decode cX7_made 156 = .ok (.aload_n 0, 1) := by decide +kernel
theorem dX7_made_157 : decode cX7_made 157 = .ok (.getfield 20, 3) := by decide +kernel
theorem dX7_made_160 : decode cX7_made 160 = .ok (.iload_n 3, 1) := by decide +kernel
theorem dX7_made_161 : decode cX7_made 161 = .ok (.iaload, 1) := by decide +kernel
theorem dX7_made_162 : decode cX7_made 162 = .ok (.iastore, 1) := by decide +kernel
theorem dX7_made_163 : decode cX7_made 163 = .ok (.iinc 3 1, 3) := by decide +kernel
theorem dX7_made_166 : decode cX7_made 166 = .ok (.goto (-68), 3) := by decide +kernel
theorem dX7_made_169 : decode cX7_made 169 = .ok (.iload_n 2, 1) := by decide +kernel
theorem dX7_made_170 : decode cX7_made 170 = .ok (.invokestatic 144, 3) := by decide +kernel
theorem dX7_made_173 : decode cX7_made 173 = .ok (.ireturn, 1) := by decide +kernel
theorem dX7_day_0 : decode cX7_day 0 = .ok (.iload_n 1, 1) := by decide +kernel
theorem dX7_day_1 : decode cX7_day 1 = .ok (.i2l, 1) := by decide +kernel
theorem dX7_day_2 : decode cX7_day 2 = .ok (.aload_n 0, 1) := by decide +kernel
theorem dX7_day_3 : decode cX7_day 3 = .ok (.getfield 106, 3) := by decide +kernel
theorem dX7_day_6 : decode cX7_day 6 = .ok (.i2l, 1) := by decide +kernel
theorem dX7_day_7 : decode cX7_day 7 = .ok (.ldc2_w 147, 3) := by decide +kernel
theorem dX7_day_10 : decode cX7_day 10 = .ok (.invokestatic 102, 3) := by decide +kernel
theorem dX7_day_13 : decode cX7_day 13 = .ok (.ifCond .ne 5, 3) := by decide +kernel
theorem dX7_day_16 : decode cX7_day 16 = .ok (.iconst (-1), 1) := by decide +kernel
theorem dX7_day_17 : decode cX7_day 17 = .ok (.ireturn, 1) := by decide +kernel
theorem dX7_day_18 : decode cX7_day 18 = .ok (.aload_n 0, 1) := by decide +kernel
theorem dX7_day_19 : decode cX7_day 19 = .ok (.getfield 106, 3) := by decide +kernel
theorem dX7_day_22 : decode cX7_day 22 = .ok (.istore_n 2, 1) := by decide +kernel
theorem dX7_day_23 : decode cX7_day 23 = .ok (.aload_n 0, 1) := by decide +kernel
theorem dX7_day_24 : decode cX7_day 24 = .ok (.iload_n 1, 1) := by decide +kernel
theorem dX7_day_25 : decode cX7_day 25 = .ok (.putfield 106, 3) := by decide +kernel
theorem dX7_day_28 : decode cX7_day 28 = .ok (.iload_n 2, 1) := by decide +kernel
theorem dX7_day_29 : decode cX7_day 29 = .ok (.ireturn, 1) := by decide +kernel
theorem dX7_firstRules_0 : decode cX7_firstRules 0 = .ok (.iconst 0, 1) := by decide +kernel
theorem dX7_firstRules_1 : decode cX7_firstRules 1 = .ok (.istore_n 1, 1) := by decide +kernel
theorem dX7_firstRules_2 : decode cX7_firstRules 2 = .ok (.iload_n 1, 1) := by decide +kernel
theorem dX7_firstRules_3 : decode cX7_firstRules 3 = .ok (.bipush 10, 2) := by decide +kernel
theorem dX7_firstRules_5 : decode cX7_firstRules 5 = .ok (.if_icmp .ge 95, 3) := by decide +kernel
theorem dX7_firstRules_8 : decode cX7_firstRules 8 = .ok (.aload_n 0, 1) := by decide +kernel
theorem dX7_firstRules_9 : decode cX7_firstRules 9 = .ok (.getfield 47, 3) := by decide +kernel
theorem dX7_firstRules_12 : decode cX7_firstRules 12 = .ok (.iload_n 1, 1) := by decide +kernel
theorem dX7_firstRules_13 : decode cX7_firstRules 13 = .ok (.iconst 0, 1) := by decide +kernel
theorem dX7_firstRules_14 : decode cX7_firstRules 14 = .ok (.bastore, 1) := by decide +kernel
theorem dX7_firstRules_15 : decode cX7_firstRules 15 = .ok (.aload_n 0, 1) := by decide +kernel
theorem dX7_firstRules_16 : decode cX7_firstRules 16 = .ok (.getfield 44, 3) := by decide +kernel
theorem dX7_firstRules_19 : decode cX7_firstRules 19 = .ok (.iload_n 1, 1) := by decide +kernel
theorem dX7_firstRules_20 : decode cX7_firstRules 20 = .ok (.iload_n 1, 1) := by decide +kernel
theorem dX7_firstRules_21 : decode cX7_firstRules 21 = .ok (.ifCond .eq 15, 3) := by decide +kernel
theorem dX7_firstRules_24 : decode cX7_firstRules 24 = .ok (.iload_n 1, 1) := by decide +kernel
theorem dX7_firstRules_25 : decode cX7_firstRules 25 = .ok (.bipush 6, 2) := by decide +kernel
theorem dX7_firstRules_27 : decode cX7_firstRules 27 = .ok (.if_icmp .eq 9, 3) := by decide +kernel
theorem dX7_firstRules_30 : decode cX7_firstRules 30 = .ok (.iload_n 1, 1) := by decide +kernel
theorem dX7_firstRules_31 : decode cX7_firstRules 31 = .ok (.bipush 8, 2) := by decide +kernel
theorem dX7_firstRules_33 : decode cX7_firstRules 33 = .ok (.if_icmp .ne 8, 3) := by decide +kernel
theorem dX7_firstRules_36 : decode cX7_firstRules 36 = .ok (.bipush 100, 2) := by decide +kernel
theorem dX7_firstRules_38 : decode cX7_firstRules 38 = .ok (.goto 55, 3) := by decide +kernel
theorem dX7_firstRules_41 : decode cX7_firstRules 41 = .ok (.iload_n 1, 1) := by decide +kernel
theorem dX7_firstRules_42 : decode cX7_firstRules 42 = .ok (.iconst 1, 1) := by decide +kernel
theorem dX7_firstRules_43 : decode cX7_firstRules 43 = .ok (.if_icmp .ne 8, 3) := by decide +kernel
theorem dX7_firstRules_46 : decode cX7_firstRules 46 = .ok (.bipush 80, 2) := by decide +kernel
theorem dX7_firstRules_48 : decode cX7_firstRules 48 = .ok (.goto 45, 3) := by decide +kernel
theorem dX7_firstRules_51 : decode cX7_firstRules 51 = .ok (.iload_n 1, 1) := by decide +kernel
theorem dX7_firstRules_52 : decode cX7_firstRules 52 = .ok (.iconst 2, 1) := by decide +kernel
theorem dX7_firstRules_53 : decode cX7_firstRules 53 = .ok (.if_icmp .ne 8, 3) := by decide +kernel
theorem dX7_firstRules_56 : decode cX7_firstRules 56 = .ok (.bipush 50, 2) := by decide +kernel
theorem dX7_firstRules_58 : decode cX7_firstRules 58 = .ok (.goto 35, 3) := by decide +kernel
theorem dX7_firstRules_61 : decode cX7_firstRules 61 = .ok (.iload_n 1, 1) := by decide +kernel
theorem dX7_firstRules_62 : decode cX7_firstRules 62 = .ok (.iconst 3, 1) := by decide +kernel
theorem dX7_firstRules_63 : decode cX7_firstRules 63 = .ok (.if_icmp .ne 7, 3) := by decide +kernel
theorem dX7_firstRules_66 : decode cX7_firstRules 66 = .ok (.iconst 0, 1) := by decide +kernel
theorem dX7_firstRules_67 : decode cX7_firstRules 67 = .ok (.goto 26, 3) := by decide +kernel
theorem dX7_firstRules_70 : decode cX7_firstRules 70 = .ok (.iload_n 1, 1) := by decide +kernel
theorem dX7_firstRules_71 : decode cX7_firstRules 71 = .ok (.iconst 5, 1) := by decide +kernel
theorem dX7_firstRules_72 : decode cX7_firstRules 72 = .ok (.if_icmp .ne 8, 3) := by decide +kernel
theorem dX7_firstRules_75 : decode cX7_firstRules 75 = .ok (.bipush 20, 2) := by decide +kernel
theorem dX7_firstRules_77 : decode cX7_firstRules 77 = .ok (.goto 16, 3) := by decide +kernel
theorem dX7_firstRules_80 : decode cX7_firstRules 80 = .ok (.iload_n 1, 1) := by decide +kernel
theorem dX7_firstRules_81 : decode cX7_firstRules 81 = .ok (.bipush 9, 2) := by decide +kernel
theorem dX7_firstRules_83 : decode cX7_firstRules 83 = .ok (.if_icmp .ne 8, 3) := by decide +kernel
theorem dX7_firstRules_86 : decode cX7_firstRules 86 = .ok (.bipush 8, 2) := by decide +kernel
theorem dX7_firstRules_88 : decode cX7_firstRules 88 = .ok (.goto 5, 3) := by decide +kernel
theorem dX7_firstRules_91 : decode cX7_firstRules 91 = .ok (.bipush 10, 2) := by decide +kernel
theorem dX7_firstRules_93 : decode cX7_firstRules 93 = .ok (.iastore, 1) := by decide +kernel
theorem dX7_firstRules_94 : decode cX7_firstRules 94 = .ok (.iinc 1 1, 3) := by decide +kernel
theorem dX7_firstRules_97 : decode cX7_firstRules 97 = .ok (.goto (-95), 3) := by decide +kernel
theorem dX7_firstRules_100 : decode cX7_firstRules 100 = .ok (.return_, 1) := by decide +kernel
theorem dX7_keepRules_0 : decode cX7_keepRules 0 = .ok (.iconst 0, 1) := by decide +kernel
theorem dX7_keepRules_1 : decode cX7_keepRules 1 = .ok (.istore_n 1, 1) := by decide +kernel
theorem dX7_keepRules_2 : decode cX7_keepRules 2 = .ok (.iload_n 1, 1) := by decide +kernel
theorem dX7_keepRules_3 : decode cX7_keepRules 3 = .ok (.bipush 10, 2) := by decide +kernel
theorem dX7_keepRules_5 : decode cX7_keepRules 5 = .ok (.if_icmp .ge 21, 3) := by decide +kernel
theorem dX7_keepRules_8 : decode cX7_keepRules 8 = .ok (.aload_n 0, 1) := by decide +kernel
theorem dX7_keepRules_9 : decode cX7_keepRules 9 = .ok (.getfield 41, 3) := by decide +kernel
theorem dX7_keepRules_12 : decode cX7_keepRules 12 = .ok (.iload_n 1, 1) := by decide +kernel
theorem dX7_keepRules_13 : decode cX7_keepRules 13 = .ok (.aload_n 0, 1) := by decide +kernel
theorem dX7_keepRules_14 : decode cX7_keepRules 14 = .ok (.getfield 44, 3) := by decide +kernel
theorem dX7_keepRules_17 : decode cX7_keepRules 17 = .ok (.iload_n 1, 1) := by decide +kernel
theorem dX7_keepRules_18 : decode cX7_keepRules 18 = .ok (.iaload, 1) := by decide +kernel
theorem dX7_keepRules_19 : decode cX7_keepRules 19 = .ok (.iastore, 1) := by decide +kernel
theorem dX7_keepRules_20 : decode cX7_keepRules 20 = .ok (.iinc 1 1, 3) := by decide +kernel
theorem dX7_keepRules_23 : decode cX7_keepRules 23 = .ok (.goto (-21), 3) := by decide +kernel
theorem dX7_keepRules_26 : decode cX7_keepRules 26 = .ok (.return_, 1) := by decide +kernel
theorem dX7_feed_0 : decode cX7_feed 0 = .ok (.aload_n 0, 1) := by decide +kernel
theorem dX7_feed_1 : decode cX7_feed 1 = .ok (.getfield 149, 3) := by decide +kernel
theorem dX7_feed_4 : decode cX7_feed 4 = .ok (.bipush 8, 2) := by decide +kernel
theorem dX7_feed_6 : decode cX7_feed 6 = .ok (.iadd, 1) := by decide +kernel
theorem dX7_feed_7 : decode cX7_feed 7 = .ok (.sipush 200, 3) := by decide +kernel
theorem dX7_feed_10 : decode cX7_feed 10 = .ok (.if_icmp .le 6, 3) := by decide +kernel
theorem dX7_feed_13 : decode cX7_feed 13 = .ok (.bipush (-3), 2) := by decide +kernel
theorem dX7_feed_15 : decode cX7_feed 15 = .ok (.ireturn, 1) := by decide +kernel
theorem dX7_feed_16 : decode cX7_feed 16 = .ok (.bipush 56, 2) := by decide +kernel
theorem dX7_feed_18 : decode cX7_feed 18 = .ok (.istore_n 3, 1) := by decide +kernel
theorem dX7_feed_19 : decode cX7_feed 19 = .ok (.iload_n 3, 1) := by decide +kernel
theorem dX7_feed_20 : decode cX7_feed 20 = .ok (.ifCond .lt 36, 3) := by decide +kernel
theorem dX7_feed_23 : decode cX7_feed 23 = .ok (.aload_n 0, 1) := by decide +kernel
theorem dX7_feed_24 : decode cX7_feed 24 = .ok (.getfield 50, 3) := by decide +kernel
theorem dX7_feed_27 : decode cX7_feed 27 = .ok (.aload_n 0, 1) := by decide +kernel
theorem dX7_feed_28 : decode cX7_feed 28 = .ok (.getfield 149, 3) := by decide +kernel
theorem dX7_feed_31 : decode cX7_feed 31 = .ok (.lload_n 1, 1) := by decide +kernel
theorem dX7_feed_32 : decode cX7_feed 32 = .ok (.iload_n 3, 1) := by decide +kernel
theorem dX7_feed_33 : decode cX7_feed 33 = .ok (.lshr, 1) := by decide +kernel
theorem dX7_feed_34 : decode cX7_feed 34 = .ok (.ldc2_w 152, 3) := by decide +kernel
theorem dX7_feed_37 : decode cX7_feed 37 = .ok (.land, 1) := by decide +kernel
theorem dX7_feed_38 : decode cX7_feed 38 = .ok (.l2i, 1) := by decide +kernel
theorem dX7_feed_39 : decode cX7_feed 39 = .ok (.iastore, 1) := by decide +kernel
theorem dX7_feed_40 : decode cX7_feed 40 = .ok (.aload_n 0, 1) := by decide +kernel
theorem dX7_feed_41 : decode cX7_feed 41 = .ok (.dup, 1) := by decide +kernel
theorem dX7_feed_42 : decode cX7_feed 42 = .ok (.getfield 149, 3) := by decide +kernel
theorem dX7_feed_45 : decode cX7_feed 45 = .ok (.iconst 1, 1) := by decide +kernel
theorem dX7_feed_46 : decode cX7_feed 46 = .ok (.iadd, 1) := by decide +kernel
theorem dX7_feed_47 : decode cX7_feed 47 = .ok (.putfield 149, 3) := by decide +kernel
theorem dX7_feed_50 : decode cX7_feed 50 = .ok (.iinc 3 (-8), 3) := by decide +kernel
theorem dX7_feed_53 : decode cX7_feed 53 = .ok (.goto (-34), 3) := by decide +kernel
theorem dX7_feed_56 : decode cX7_feed 56 = .ok (.aload_n 0, 1) := by decide +kernel
theorem dX7_feed_57 : decode cX7_feed 57 = .ok (.getfield 149, 3) := by decide +kernel
theorem dX7_feed_60 : decode cX7_feed 60 = .ok (.ireturn, 1) := by decide +kernel
theorem dX7_end_0 : decode cX7_end 0 = .ok (.iload_n 1, 1) := by decide +kernel
theorem dX7_end_1 : decode cX7_end 1 = .ok (.i2l, 1) := by decide +kernel
theorem dX7_end_2 : decode cX7_end 2 = .ok (.lconst 0, 1) := by decide +kernel
theorem dX7_end_3 : decode cX7_end 3 = .ok (.aload_n 0, 1) := by decide +kernel
theorem dX7_end_4 : decode cX7_end 4 = .ok (.getfield 149, 3) := by decide +kernel
theorem dX7_end_7 : decode cX7_end 7 = .ok (.i2l, 1) := by decide +kernel
theorem dX7_end_8 : decode cX7_end 8 = .ok (.invokestatic 102, 3) := by decide +kernel
theorem dX7_end_11 : decode cX7_end 11 = .ok (.ifCond .ne 5, 3) := by decide +kernel
theorem dX7_end_14 : decode cX7_end 14 = .ok (.iconst (-1), 1) := by decide +kernel
theorem dX7_end_15 : decode cX7_end 15 = .ok (.ireturn, 1) := by decide +kernel
theorem dX7_end_16 : decode cX7_end 16 = .ok (.aload_n 0, 1) := by decide +kernel
theorem dX7_end_17 : decode cX7_end 17 = .ok (.getfield 149, 3) := by decide +kernel
theorem dX7_end_20 : decode cX7_end 20 = .ok (.istore_n 2, 1) := by decide +kernel
theorem dX7_end_21 : decode cX7_end 21 = .ok (.aload_n 0, 1) := by decide +kernel
theorem dX7_end_22 : decode cX7_end 22 = .ok (.iload_n 1, 1) := by decide +kernel
theorem dX7_end_23 : decode cX7_end 23 = .ok (.putfield 149, 3) := by decide +kernel
theorem dX7_end_26 : decode cX7_end 26 = .ok (.iload_n 2, 1) := by decide +kernel
theorem dX7_end_27 : decode cX7_end 27 = .ok (.ireturn, 1) := by decide +kernel
theorem dX7_wants_0 : decode cX7_wants 0 = .ok (.iload_n 1, 1) := by decide +kernel
theorem dX7_wants_1 : decode cX7_wants 1 = .ok (.ifCond .ne 23, 3) := by decide +kernel
theorem dX7_wants_4 : decode cX7_wants 4 = .ok (.aload_n 0, 1) := by decide +kernel
theorem dX7_wants_5 : decode cX7_wants 5 = .ok (.getfield 154, 3) := by decide +kernel
theorem dX7_wants_8 : decode cX7_wants 8 = .ok (.ifCond .ne 16, 3) := by decide +kernel
theorem dX7_wants_11 : decode cX7_wants 11 = .ok (.aload_n 0, 1) := by decide +kernel
theorem dX7_wants_12 : decode cX7_wants 12 = .ok (.iload_n 2, 1) := by decide +kernel
theorem dX7_wants_13 : decode cX7_wants 13 = .ok (.putfield 154, 3) := by decide +kernel
theorem dX7_wants_16 : decode cX7_wants 16 = .ok (.aload_n 0, 1) := by decide +kernel
theorem dX7_wants_17 : decode cX7_wants 17 = .ok (.aload_n 0, 1) := by decide +kernel
theorem dX7_wants_18 : decode cX7_wants 18 = .ok (.getfield 157, 3) := by decide +kernel
theorem dX7_wants_21 : decode cX7_wants 21 = .ok (.putfield 160, 3) := by decide +kernel
theorem dX7_wants_24 : decode cX7_wants 24 = .ok (.return_, 1) := by decide +kernel
theorem dX7_look_0 : decode cX7_look 0 = .ok (.iload_n 1, 1) := by decide +kernel
theorem dX7_look_1 : decode cX7_look 1 = .ok (.aload_n 0, 1) := by decide +kernel
theorem dX7_look_2 : decode cX7_look 2 = .ok (.getfield 149, 3) := by decide +kernel
theorem dX7_look_5 : decode cX7_look 5 = .ok (.if_icmp .ge 12, 3) := by decide +kernel
theorem dX7_look_8 : decode cX7_look 8 = .ok (.aload_n 0, 1) := by decide +kernel
theorem dX7_look_9 : decode cX7_look 9 = .ok (.getfield 50, 3) := by decide +kernel
theorem dX7_look_12 : decode cX7_look 12 = .ok (.iload_n 1, 1) := by decide +kernel
theorem dX7_look_13 : decode cX7_look 13 = .ok (.iaload, 1) := by decide +kernel
theorem dX7_look_14 : decode cX7_look 14 = .ok (.goto 4, 3) := by decide +kernel
theorem dX7_look_17 : decode cX7_look 17 = .ok (.iconst (-1), 1) := by decide +kernel
theorem dX7_look_18 : decode cX7_look 18 = .ok (.ireturn, 1) := by decide +kernel
theorem dX7_is_0 : decode cX7_is 0 = .ok (.aload_n 0, 1) := by decide +kernel
theorem dX7_is_1 : decode cX7_is 1 = .ok (.getfield 163, 3) := by decide +kernel
theorem dX7_is_4 : decode cX7_is 4 = .ok (.aload_n 0, 1) := by decide +kernel
theorem dX7_is_5 : decode cX7_is 5 = .ok (.getfield 157, 3) := by decide +kernel
theorem dX7_is_8 : decode cX7_is 8 = .ok (.isub, 1) := by decide +kernel
theorem dX7_is_9 : decode cX7_is 9 = .ok (.iload_n 1, 1) := by decide +kernel
theorem dX7_is_10 : decode cX7_is 10 = .ok (.if_icmp .ne 68, 3) := by decide +kernel
theorem dX7_is_13 : decode cX7_is 13 = .ok (.aload_n 0, 1) := by decide +kernel
theorem dX7_is_14 : decode cX7_is 14 = .ok (.aload_n 0, 1) := by decide +kernel
theorem dX7_is_15 : decode cX7_is 15 = .ok (.getfield 157, 3) := by decide +kernel
theorem dX7_is_18 : decode cX7_is 18 = .ok (.invokevirtual 166, 3) := by decide +kernel
theorem dX7_is_21 : decode cX7_is 21 = .ok (.iload_n 2, 1) := by decide +kernel
theorem dX7_is_22 : decode cX7_is 22 = .ok (.if_icmp .ne 56, 3) := by decide +kernel
theorem dX7_is_25 : decode cX7_is 25 = .ok (.aload_n 0, 1) := by decide +kernel
theorem dX7_is_26 : decode cX7_is 26 = .ok (.aload_n 0, 1) := by decide +kernel
theorem dX7_is_27 : decode cX7_is 27 = .ok (.getfield 157, 3) := by decide +kernel
theorem dX7_is_30 : decode cX7_is 30 = .ok (.iconst 1, 1) := by decide +kernel
theorem dX7_is_31 : decode cX7_is 31 = .ok (.iadd, 1) := by decide +kernel
theorem dX7_is_32 : decode cX7_is 32 = .ok (.invokevirtual 166, 3) := by decide +kernel
theorem dX7_is_35 : decode cX7_is 35 = .ok (.iload_n 3, 1) := by decide +kernel
theorem dX7_is_36 : decode cX7_is 36 = .ok (.if_icmp .ne 42, 3) := by decide +kernel
theorem dX7_is_39 : decode cX7_is 39 = .ok (.aload_n 0, 1) := by decide +kernel
theorem dX7_is_40 : decode cX7_is 40 = .ok (.aload_n 0, 1) := by decide +kernel
theorem dX7_is_41 : decode cX7_is 41 = .ok (.getfield 157, 3) := by decide +kernel
theorem dX7_is_44 : decode cX7_is 44 = .ok (.iconst 2, 1) := by decide +kernel
theorem dX7_is_45 : decode cX7_is 45 = .ok (.iadd, 1) := by decide +kernel
theorem dX7_is_46 : decode cX7_is 46 = .ok (.invokevirtual 166, 3) := by decide +kernel
theorem dX7_is_49 : decode cX7_is 49 = .ok (.iload 4, 2) := by decide +kernel
theorem dX7_is_51 : decode cX7_is 51 = .ok (.if_icmp .ne 27, 3) := by decide +kernel
theorem dX7_is_54 : decode cX7_is 54 = .ok (.iload_n 1, 1) := by decide +kernel
theorem dX7_is_55 : decode cX7_is 55 = .ok (.iconst 4, 1) := by decide +kernel
theorem dX7_is_56 : decode cX7_is 56 = .ok (.if_icmp .lt 18, 3) := by decide +kernel
theorem dX7_is_59 : decode cX7_is 59 = .ok (.aload_n 0, 1) := by decide +kernel
theorem dX7_is_60 : decode cX7_is 60 = .ok (.aload_n 0, 1) := by decide +kernel
theorem dX7_is_61 : decode cX7_is 61 = .ok (.getfield 157, 3) := by decide +kernel
theorem dX7_is_64 : decode cX7_is 64 = .ok (.iconst 3, 1) := by decide +kernel
theorem dX7_is_65 : decode cX7_is 65 = .ok (.iadd, 1) := by decide +kernel
theorem dX7_is_66 : decode cX7_is 66 = .ok (.invokevirtual 166, 3) := by decide +kernel
theorem dX7_is_69 : decode cX7_is 69 = .ok (.iload 5, 2) := by decide +kernel
theorem dX7_is_71 : decode cX7_is 71 = .ok (.if_icmp .ne 7, 3) := by decide +kernel
theorem dX7_is_74 : decode cX7_is 74 = .ok (.iconst 1, 1) := by decide +kernel
theorem dX7_is_75 : decode cX7_is 75 = .ok (.goto 4, 3) := by decide +kernel
theorem dX7_is_78 : decode cX7_is 78 = .ok (.iconst 0, 1) := by decide +kernel
theorem dX7_is_79 : decode cX7_is 79 = .ok (.ireturn, 1) := by decide +kernel
theorem dX7_nameNow_0 : decode cX7_nameNow 0 = .ok (.aload_n 0, 1) := by decide +kernel
theorem dX7_nameNow_1 : decode cX7_nameNow 1 = .ok (.iconst 3, 1) := by decide +kernel
theorem dX7_nameNow_2 : decode cX7_nameNow 2 = .ok (.bipush 109, 2) := by decide +kernel
theorem dX7_nameNow_4 : decode cX7_nameNow 4 = .ok (.bipush 101, 2) := by decide +kernel
theorem dX7_nameNow_6 : decode cX7_nameNow 6 = .ok (.bipush 116, 2) := by decide +kernel
theorem dX7_nameNow_8 : decode cX7_nameNow 8 = .ok (.iconst 0, 1) := by decide +kernel
theorem dX7_nameNow_9 : decode cX7_nameNow 9 = .ok (.invokevirtual 169, 3) := by decide +kernel
theorem dX7_nameNow_12 : decode cX7_nameNow 12 = .ok (.ifCond .eq 5, 3) := by decide +kernel
theorem dX7_nameNow_15 : decode cX7_nameNow 15 = .ok (.iconst 0, 1) := by decide +kernel
theorem dX7_nameNow_16 : decode cX7_nameNow 16 = .ok (.ireturn, 1) := by decide +kernel
theorem dX7_nameNow_17 : decode cX7_nameNow 17 = .ok (.aload_n 0, 1) := by decide +kernel
theorem dX7_nameNow_18 : decode cX7_nameNow 18 = .ok (.iconst 5, 1) := by decide +kernel
theorem dX7_nameNow_19 : decode cX7_nameNow 19 = .ok (.bipush 100, 2) := by decide +kernel
theorem dX7_nameNow_21 : decode cX7_nameNow 21 = .ok (.bipush 101, 2) := by decide +kernel
theorem dX7_nameNow_23 : decode cX7_nameNow 23 = .ok (.bipush 97, 2) := by decide +kernel
theorem dX7_nameNow_25 : decode cX7_nameNow 25 = .ok (.bipush 108, 2) := by decide +kernel
theorem dX7_nameNow_27 : decode cX7_nameNow 27 = .ok (.invokevirtual 169, 3) := by decide +kernel
theorem dX7_nameNow_30 : decode cX7_nameNow 30 = .ok (.ifCond .eq 20, 3) := by decide +kernel
theorem dX7_nameNow_33 : decode cX7_nameNow 33 = .ok (.aload_n 0, 1) := by decide +kernel
theorem dX7_nameNow_34 : decode cX7_nameNow 34 = .ok (.aload_n 0, 1) := by decide +kernel
theorem dX7_nameNow_35 : decode cX7_nameNow 35 = .ok (.getfield 157, 3) := by decide +kernel
theorem dX7_nameNow_38 : decode cX7_nameNow 38 = .ok (.iconst 4, 1) := by decide +kernel
theorem dX7_nameNow_39 : decode cX7_nameNow 39 = .ok (.iadd, 1) := by decide +kernel
theorem dX7_nameNow_40 : decode cX7_nameNow 40 = .ok (.invokevirtual 166, 3) := by decide +kernel
theorem dX7_nameNow_43 : decode cX7_nameNow 43 = .ok (.bipush 116, 2) := by decide +kernel
theorem dX7_nameNow_45 : decode cX7_nameNow 45 = .ok (.if_icmp .ne 5, 3) := by decide +kernel
theorem dX7_nameNow_48 : decode cX7_nameNow 48 = .ok (.iconst 1, 1) := by decide +kernel
theorem dX7_nameNow_49 : decode cX7_nameNow 49 = .ok (.ireturn, 1) := by decide +kernel
theorem dX7_nameNow_50 : decode cX7_nameNow 50 = .ok (.aload_n 0, 1) := by decide +kernel
theorem dX7_nameNow_51 : decode cX7_nameNow 51 = .ok (.iconst 4, 1) := by decide +kernel
theorem dX7_nameNow_52 : decode cX7_nameNow 52 = .ok (.bipush 115, 2) := by decide +kernel
theorem dX7_nameNow_54 : decode cX7_nameNow 54 = .ok (.bipush 97, 2) := by decide +kernel
theorem dX7_nameNow_56 : decode cX7_nameNow 56 = .ok (.bipush 105, 2) := by decide +kernel
theorem dX7_nameNow_58 : decode cX7_nameNow 58 = .ok (.bipush 100, 2) := by decide +kernel
theorem dX7_nameNow_60 : decode cX7_nameNow 60 = .ok (.invokevirtual 169, 3) := by decide +kernel
theorem dX7_nameNow_63 : decode cX7_nameNow 63 = .ok (.ifCond .eq 5, 3) := by decide +kernel
theorem dX7_nameNow_66 : decode cX7_nameNow 66 = .ok (.iconst 2, 1) := by decide +kernel
theorem dX7_nameNow_67 : decode cX7_nameNow 67 = .ok (.ireturn, 1) := by decide +kernel
theorem dX7_nameNow_68 : decode cX7_nameNow 68 = .ok (.aload_n 0, 1) := by decide +kernel
theorem dX7_nameNow_69 : decode cX7_nameNow 69 = .ok (.bipush 6, 2) := by decide +kernel
theorem dX7_nameNow_71 : decode cX7_nameNow 71 = .ok (.bipush 98, 2) := by decide +kernel
theorem dX7_nameNow_73 : decode cX7_nameNow 73 = .ok (.bipush 111, 2) := by decide +kernel
theorem dX7_nameNow_75 : decode cX7_nameNow 75 = .ok (.bipush 117, 2) := by decide +kernel
theorem dX7_nameNow_77 : decode cX7_nameNow 77 = .ok (.bipush 103, 2) := by decide +kernel
theorem dX7_nameNow_79 : decode cX7_nameNow 79 = .ok (.invokevirtual 169, 3) := by decide +kernel
theorem dX7_nameNow_82 : decode cX7_nameNow 82 = .ok (.ifCond .eq 35, 3) := by decide +kernel
theorem dX7_nameNow_85 : decode cX7_nameNow 85 = .ok (.aload_n 0, 1) := by decide +kernel
theorem dX7_nameNow_86 : decode cX7_nameNow 86 = .ok (.aload_n 0, 1) := by decide +kernel
theorem dX7_nameNow_87 : decode cX7_nameNow 87 = .ok (.getfield 157, 3) := by decide +kernel
theorem dX7_nameNow_90 : decode cX7_nameNow 90 = .ok (.iconst 4, 1) := by decide +kernel
theorem dX7_nameNow_91 : decode cX7_nameNow 91 = .ok (.iadd, 1) := by decide +kernel
theorem dX7_nameNow_92 : decode cX7_nameNow 92 = .ok (.invokevirtual 166, 3) := by decide +kernel
theorem dX7_nameNow_95 : decode cX7_nameNow 95 = .ok (.bipush 104, 2) := by decide +kernel
theorem dX7_nameNow_97 : decode cX7_nameNow 97 = .ok (.if_icmp .ne 20, 3) := by decide +kernel
theorem dX7_nameNow_100 : decode cX7_nameNow 100 = .ok (.aload_n 0, 1) := by decide +kernel
theorem dX7_nameNow_101 : decode cX7_nameNow 101 = .ok (.aload_n 0, 1) := by decide +kernel
theorem dX7_nameNow_102 : decode cX7_nameNow 102 = .ok (.getfield 157, 3) := by decide +kernel
theorem dX7_nameNow_105 : decode cX7_nameNow 105 = .ok (.iconst 5, 1) := by decide +kernel
theorem dX7_nameNow_106 : decode cX7_nameNow 106 = .ok (.iadd, 1) := by decide +kernel
theorem dX7_nameNow_107 : decode cX7_nameNow 107 = .ok (.invokevirtual 166, 3) := by decide +kernel
theorem dX7_nameNow_110 : decode cX7_nameNow 110 = .ok (.bipush 116, 2) := by decide +kernel
theorem dX7_nameNow_112 : decode cX7_nameNow 112 = .ok (.if_icmp .ne 5, 3) := by decide +kernel
theorem dX7_nameNow_115 : decode cX7_nameNow 115 = .ok (.iconst 3, 1) := by decide +kernel
theorem dX7_nameNow_116 : decode cX7_nameNow 116 = .ok (.ireturn, 1) := by decide +kernel
theorem dX7_nameNow_117 : decode cX7_nameNow 117 = .ok (.aload_n 0, 1) := by decide +kernel
theorem dX7_nameNow_118 : decode cX7_nameNow 118 = .ok (.iconst 4, 1) := by decide +kernel
theorem dX7_nameNow_119 : decode cX7_nameNow 119 = .ok (.bipush 102, 2) := by decide +kernel
theorem dX7_nameNow_121 : decode cX7_nameNow 121 = .ok (.bipush 97, 2) := by decide +kernel
theorem dX7_nameNow_123 : decode cX7_nameNow 123 = .ok (.bipush 100, 2) := by decide +kernel
theorem dX7_nameNow_125 : decode cX7_nameNow 125 = .ok (.bipush 101, 2) := by decide +kernel
theorem dX7_nameNow_127 : decode cX7_nameNow 127 = .ok (.invokevirtual 169, 3) := by decide +kernel
theorem dX7_nameNow_130 : decode cX7_nameNow 130 = .ok (.ifCond .eq 5, 3) := by decide +kernel
theorem dX7_nameNow_133 : decode cX7_nameNow 133 = .ok (.iconst 4, 1) := by decide +kernel
theorem dX7_nameNow_134 : decode cX7_nameNow 134 = .ok (.ireturn, 1) := by decide +kernel
theorem dX7_nameNow_135 : decode cX7_nameNow 135 = .ok (.aload_n 0, 1) := by decide +kernel
theorem dX7_nameNow_136 : decode cX7_nameNow 136 = .ok (.iconst 4, 1) := by decide +kernel
theorem dX7_nameNow_137 : decode cX7_nameNow 137 = .ok (.bipush 119, 2) := by decide +kernel
theorem dX7_nameNow_139 : decode cX7_nameNow 139 = .ok (.bipush 111, 2) := by decide +kernel
theorem dX7_nameNow_141 : decode cX7_nameNow 141 = .ok (.bipush 114, 2) := by decide +kernel
theorem dX7_nameNow_143 : decode cX7_nameNow 143 = .ok (.bipush 100, 2) := by decide +kernel
theorem dX7_nameNow_145 : decode cX7_nameNow 145 = .ok (.invokevirtual 169, 3) := by decide +kernel
theorem dX7_nameNow_148 : decode cX7_nameNow 148 = .ok (.ifCond .eq 5, 3) := by decide +kernel
theorem dX7_nameNow_151 : decode cX7_nameNow 151 = .ok (.iconst 5, 1) := by decide +kernel
theorem dX7_nameNow_152 : decode cX7_nameNow 152 = .ok (.ireturn, 1) := by decide +kernel
theorem dX7_nameNow_153 : decode cX7_nameNow 153 = .ok (.aload_n 0, 1) := by decide +kernel
theorem dX7_nameNow_154 : decode cX7_nameNow 154 = .ok (.iconst 4, 1) := by decide +kernel
theorem dX7_nameNow_155 : decode cX7_nameNow 155 = .ok (.bipush 115, 2) := by decide +kernel
theorem dX7_nameNow_157 : decode cX7_nameNow 157 = .ok (.bipush 101, 2) := by decide +kernel
theorem dX7_nameNow_159 : decode cX7_nameNow 159 = .ok (.bipush 101, 2) := by decide +kernel
theorem dX7_nameNow_161 : decode cX7_nameNow 161 = .ok (.bipush 100, 2) := by decide +kernel
theorem dX7_nameNow_163 : decode cX7_nameNow 163 = .ok (.invokevirtual 169, 3) := by decide +kernel
theorem dX7_nameNow_166 : decode cX7_nameNow 166 = .ok (.ifCond .eq 6, 3) := by decide +kernel
theorem dX7_nameNow_169 : decode cX7_nameNow 169 = .ok (.bipush 6, 2) := by decide +kernel
theorem dX7_nameNow_171 : decode cX7_nameNow 171 = .ok (.ireturn, 1) := by decide +kernel
theorem dX7_nameNow_172 : decode cX7_nameNow 172 = .ok (.aload_n 0, 1) := by decide +kernel
theorem dX7_nameNow_173 : decode cX7_nameNow 173 = .ok (.bipush 6, 2) := by decide +kernel
theorem dX7_nameNow_175 : decode cX7_nameNow 175 = .ok (.bipush 112, 2) := by decide +kernel
theorem dX7_nameNow_177 : decode cX7_nameNow 177 = .ok (.bipush 108, 2) := by decide +kernel
theorem dX7_nameNow_179 : decode cX7_nameNow 179 = .ok (.bipush 101, 2) := by decide +kernel
theorem dX7_nameNow_181 : decode cX7_nameNow 181 = .ok (.bipush 100, 2) := by decide +kernel
theorem dX7_nameNow_183 : decode cX7_nameNow 183 = .ok (.invokevirtual 169, 3) := by decide +kernel
theorem dX7_nameNow_186 : decode cX7_nameNow 186 = .ok (.ifCond .eq 36, 3) := by decide +kernel
theorem dX7_nameNow_189 : decode cX7_nameNow 189 = .ok (.aload_n 0, 1) := by decide +kernel
theorem dX7_nameNow_190 : decode cX7_nameNow 190 = .ok (.aload_n 0, 1) := by decide +kernel
theorem dX7_nameNow_191 : decode cX7_nameNow 191 = .ok (.getfield 157, 3) := by decide +kernel
theorem dX7_nameNow_194 : decode cX7_nameNow 194 = .ok (.iconst 4, 1) := by decide +kernel
theorem dX7_nameNow_195 : decode cX7_nameNow 195 = .ok (.iadd, 1) := by decide +kernel
theorem dX7_nameNow_196 : decode cX7_nameNow 196 = .ok (.invokevirtual 166, 3) := by decide +kernel
theorem dX7_nameNow_199 : decode cX7_nameNow 199 = .ok (.bipush 103, 2) := by decide +kernel
theorem dX7_nameNow_201 : decode cX7_nameNow 201 = .ok (.if_icmp .ne 21, 3) := by decide +kernel
theorem dX7_nameNow_204 : decode cX7_nameNow 204 = .ok (.aload_n 0, 1) := by decide +kernel
theorem dX7_nameNow_205 : decode cX7_nameNow 205 = .ok (.aload_n 0, 1) := by decide +kernel
theorem dX7_nameNow_206 : decode cX7_nameNow 206 = .ok (.getfield 157, 3) := by decide +kernel
theorem dX7_nameNow_209 : decode cX7_nameNow 209 = .ok (.iconst 5, 1) := by decide +kernel
theorem dX7_nameNow_210 : decode cX7_nameNow 210 = .ok (.iadd, 1) := by decide +kernel
theorem dX7_nameNow_211 : decode cX7_nameNow 211 = .ok (.invokevirtual 166, 3) := by decide +kernel
theorem dX7_nameNow_214 : decode cX7_nameNow 214 = .ok (.bipush 101, 2) := by decide +kernel
theorem dX7_nameNow_216 : decode cX7_nameNow 216 = .ok (.if_icmp .ne 6, 3) := by decide +kernel
theorem dX7_nameNow_219 : decode cX7_nameNow 219 = .ok (.bipush 7, 2) := by decide +kernel
theorem dX7_nameNow_221 : decode cX7_nameNow 221 = .ok (.ireturn, 1) := by decide +kernel
theorem dX7_nameNow_222 : decode cX7_nameNow 222 = .ok (.aload_n 0, 1) := by decide +kernel
theorem dX7_nameNow_223 : decode cX7_nameNow 223 = .ok (.iconst 4, 1) := by decide +kernel
theorem dX7_nameNow_224 : decode cX7_nameNow 224 = .ok (.bipush 102, 2) := by decide +kernel
theorem dX7_nameNow_226 : decode cX7_nameNow 226 = .ok (.bipush 105, 2) := by decide +kernel
theorem dX7_nameNow_228 : decode cX7_nameNow 228 = .ok (.bipush 110, 2) := by decide +kernel
theorem dX7_nameNow_230 : decode cX7_nameNow 230 = .ok (.bipush 101, 2) := by decide +kernel
theorem dX7_nameNow_232 : decode cX7_nameNow 232 = .ok (.invokevirtual 169, 3) := by decide +kernel
theorem dX7_nameNow_235 : decode cX7_nameNow 235 = .ok (.ifCond .eq 8, 3) := by decide +kernel
theorem dX7_nameNow_238 : decode cX7_nameNow 238 = .ok (.bipush 8, 2) := by decide +kernel
theorem dX7_nameNow_240 : decode cX7_nameNow 240 = .ok (.goto 26, 3) := by decide +kernel
theorem dX7_nameNow_243 : decode cX7_nameNow 243 = .ok (.aload_n 0, 1) := by decide +kernel
theorem dX7_nameNow_244 : decode cX7_nameNow 244 = .ok (.iconst 4, 1) := by decide +kernel
theorem dX7_nameNow_245 : decode cX7_nameNow 245 = .ok (.bipush 103, 2) := by decide +kernel
theorem dX7_nameNow_247 : decode cX7_nameNow 247 = .ok (.bipush 111, 2) := by decide +kernel
theorem dX7_nameNow_249 : decode cX7_nameNow 249 = .ok (.bipush 111, 2) := by decide +kernel
theorem dX7_nameNow_251 : decode cX7_nameNow 251 = .ok (.bipush 100, 2) := by decide +kernel
theorem dX7_nameNow_253 : decode cX7_nameNow 253 = .ok (.invokevirtual 169, 3) := by decide +kernel
theorem dX7_nameNow_256 : decode cX7_nameNow 256 = .ok (.ifCond .eq 8, 3) := by decide +kernel
theorem dX7_nameNow_259 : decode cX7_nameNow 259 = .ok (.bipush 9, 2) := by decide +kernel
theorem dX7_nameNow_261 : decode cX7_nameNow 261 = .ok (.goto 5, 3) := by decide +kernel
theorem dX7_nameNow_264 : decode cX7_nameNow 264 = .ok (.bipush (-4), 2) := by decide +kernel
theorem dX7_nameNow_266 : decode cX7_nameNow 266 = .ok (.ireturn, 1) := by decide +kernel
theorem dX7_next_0 : decode cX7_next 0 = .ok (.aload_n 0, 1) := by decide +kernel
theorem dX7_next_1 : decode cX7_next 1 = .ok (.getfield 154, 3) := by decide +kernel
theorem dX7_next_4 : decode cX7_next 4 = .ok (.ifCond .le 4, 3) := by decide +kernel
theorem dX7_next_7 : decode cX7_next 7 = .ok (.return_, 1) := by decide +kernel
theorem dX7_next_8 : decode cX7_next 8 = .ok (.aload_n 0, 1) := by decide +kernel
theorem dX7_next_9 : decode cX7_next 9 = .ok (.aload_n 0, 1) := by decide +kernel
theorem dX7_next_10 : decode cX7_next 10 = .ok (.getfield 163, 3) := by decide +kernel
theorem dX7_next_13 : decode cX7_next 13 = .ok (.invokevirtual 166, 3) := by decide +kernel
theorem dX7_next_16 : decode cX7_next 16 = .ok (.bipush 32, 2) := by decide +kernel
theorem dX7_next_18 : decode cX7_next 18 = .ok (.if_icmp .ne 16, 3) := by decide +kernel
theorem dX7_next_21 : decode cX7_next 21 = .ok (.aload_n 0, 1) := by decide +kernel
theorem dX7_next_22 : decode cX7_next 22 = .ok (.dup, 1) := by decide +kernel
theorem dX7_next_23 : decode cX7_next 23 = .ok (.getfield 163, 3) := by decide +kernel
theorem dX7_next_26 : decode cX7_next 26 = .ok (.iconst 1, 1) := by decide +kernel
theorem dX7_next_27 : decode cX7_next 27 = .ok (.iadd, 1) := by decide +kernel
theorem dX7_next_28 : decode cX7_next 28 = .ok (.putfield 163, 3) := by decide +kernel
theorem dX7_next_31 : decode cX7_next 31 = .ok (.goto (-23), 3) := by decide +kernel
theorem dX7_next_34 : decode cX7_next 34 = .ok (.aload_n 0, 1) := by decide +kernel
theorem dX7_next_35 : decode cX7_next 35 = .ok (.aload_n 0, 1) := by decide +kernel
theorem dX7_next_36 : decode cX7_next 36 = .ok (.getfield 163, 3) := by decide +kernel
theorem dX7_next_39 : decode cX7_next 39 = .ok (.putfield 157, 3) := by decide +kernel
theorem dX7_next_42 : decode cX7_next 42 = .ok (.aload_n 0, 1) := by decide +kernel
theorem dX7_next_43 : decode cX7_next 43 = .ok (.aload_n 0, 1) := by decide +kernel
theorem dX7_next_44 : decode cX7_next 44 = .ok (.getfield 163, 3) := by decide +kernel
theorem dX7_next_47 : decode cX7_next 47 = .ok (.invokevirtual 166, 3) := by decide +kernel
theorem dX7_next_50 : decode cX7_next 50 = .ok (.istore_n 1, 1) := by decide +kernel
theorem dX7_next_51 : decode cX7_next 51 = .ok (.iload_n 1, 1) := by decide +kernel
theorem dX7_next_52 : decode cX7_next 52 = .ok (.ifCond .ge 11, 3) := by decide +kernel
theorem dX7_next_55 : decode cX7_next 55 = .ok (.aload_n 0, 1) := by decide +kernel
theorem dX7_next_56 : decode cX7_next 56 = .ok (.iconst 0, 1) := by decide +kernel
theorem dX7_next_57 : decode cX7_next 57 = .ok (.putfield 173, 3) := by decide +kernel
theorem dX7_next_60 : decode cX7_next 60 = .ok (.goto 244, 3) := by decide +kernel
theorem dX7_next_63 : decode cX7_next 63 = .ok (.iload_n 1, 1) := by decide +kernel
theorem dX7_next_64 : decode cX7_next 64 = .ok (.i2l, 1) := by decide +kernel
theorem dX7_next_65 : decode cX7_next 65 = .ok (.ldc2_w 176, 3) := by decide +kernel
theorem dX7_next_68 : decode cX7_next 68 = .ok (.ldc2_w 178, 3) := by decide +kernel
theorem dX7_next_71 : decode cX7_next 71 = .ok (.invokestatic 102, 3) := by decide +kernel
theorem dX7_next_74 : decode cX7_next 74 = .ok (.ifCond .eq 72, 3) := by decide +kernel
theorem dX7_next_77 : decode cX7_next 77 = .ok (.aload_n 0, 1) := by decide +kernel
theorem dX7_next_78 : decode cX7_next 78 = .ok (.iconst 1, 1) := by decide +kernel
theorem dX7_next_79 : decode cX7_next 79 = .ok (.putfield 173, 3) := by decide +kernel
theorem dX7_next_82 : decode cX7_next 82 = .ok (.aload_n 0, 1) := by decide +kernel
theorem dX7_next_83 : decode cX7_next 83 = .ok (.aload_n 0, 1) := by decide +kernel
theorem dX7_next_84 : decode cX7_next 84 = .ok (.getfield 163, 3) := by decide +kernel
theorem dX7_next_87 : decode cX7_next 87 = .ok (.invokevirtual 166, 3) := by decide +kernel
theorem dX7_next_90 : decode cX7_next 90 = .ok (.i2l, 1) := by decide +kernel
theorem dX7_next_91 : decode cX7_next 91 = .ok (.ldc2_w 176, 3) := by decide +kernel
theorem dX7_next_94 : decode cX7_next 94 = .ok (.ldc2_w 178, 3) := by decide +kernel
theorem dX7_next_97 : decode cX7_next 97 = .ok (.invokestatic 102, 3) := by decide +kernel
theorem dX7_next_100 : decode cX7_next 100 = .ok (.ifCond .eq 16, 3) := by decide +kernel
theorem dX7_next_103 : decode cX7_next 103 = .ok (.aload_n 0, 1) := by decide +kernel
theorem dX7_next_104 : decode cX7_next 104 = .ok (.dup, 1) := by decide +kernel
theorem dX7_next_105 : decode cX7_next 105 = .ok (.getfield 163, 3) := by decide +kernel
theorem dX7_next_108 : decode cX7_next 108 = .ok (.iconst 1, 1) := by decide +kernel
theorem dX7_next_109 : decode cX7_next 109 = .ok (.iadd, 1) := by decide +kernel
theorem dX7_next_110 : decode cX7_next 110 = .ok (.putfield 163, 3) := by decide +kernel
theorem dX7_next_113 : decode cX7_next 113 = .ok (.goto (-31), 3) := by decide +kernel
theorem dX7_next_116 : decode cX7_next 116 = .ok (.aload_n 0, 1) := by decide +kernel
theorem dX7_next_117 : decode cX7_next 117 = .ok (.aload_n 0, 1) := by decide +kernel
theorem dX7_next_118 : decode cX7_next 118 = .ok (.invokevirtual 180, 3) := by decide +kernel
theorem dX7_next_121 : decode cX7_next 121 = .ok (.putfield 184, 3) := by decide +kernel
theorem dX7_next_124 : decode cX7_next 124 = .ok (.aload_n 0, 1) := by decide +kernel
theorem dX7_next_125 : decode cX7_next 125 = .ok (.aload_n 0, 1) := by decide +kernel
theorem dX7_next_126 : decode cX7_next 126 = .ok (.getfield 184, 3) := by decide +kernel
theorem dX7_next_129 : decode cX7_next 129 = .ok (.bipush (-4), 2) := by decide +kernel
theorem dX7_next_131 : decode cX7_next 131 = .ok (.if_icmp .eq 7, 3) := by decide +kernel
theorem dX7_next_134 : decode cX7_next 134 = .ok (.iconst 1, 1) := by decide +kernel
theorem dX7_next_135 : decode cX7_next 135 = .ok (.goto 4, 3) := by decide +kernel
theorem dX7_next_138 : decode cX7_next 138 = .ok (.iconst 0, 1) := by decide +kernel
theorem dX7_next_139 : decode cX7_next 139 = .ok (.iconst 1, 1) := by decide +kernel
theorem dX7_next_140 : decode cX7_next 140 = .ok (.invokevirtual 187, 3) := by decide +kernel
theorem dX7_next_143 : decode cX7_next 143 = .ok (.goto 161, 3) := by decide +kernel
theorem dX7_next_146 : decode cX7_next 146 = .ok (.iload_n 1, 1) := by decide +kernel
theorem dX7_next_147 : decode cX7_next 147 = .ok (.i2l, 1) := by decide +kernel
theorem dX7_next_148 : decode cX7_next 148 = .ok (.ldc2_w 191, 3) := by decide +kernel
theorem dX7_next_151 : decode cX7_next 151 = .ok (.ldc2_w 193, 3) := by decide +kernel
theorem dX7_next_154 : decode cX7_next 154 = .ok (.invokestatic 102, 3) := by decide +kernel
theorem dX7_next_157 : decode cX7_next 157 = .ok (.ifCond .eq 116, 3) := by decide +kernel
theorem dX7_next_160 : decode cX7_next 160 = .ok (.aload_n 0, 1) := by decide +kernel
theorem dX7_next_161 : decode cX7_next 161 = .ok (.iconst 2, 1) := by decide +kernel
theorem dX7_next_162 : decode cX7_next 162 = .ok (.putfield 173, 3) := by decide +kernel
theorem dX7_next_165 : decode cX7_next 165 = .ok (.aload_n 0, 1) := by decide +kernel
theorem dX7_next_166 : decode cX7_next 166 = .ok (.iconst 0, 1) := by decide +kernel
theorem dX7_next_167 : decode cX7_next 167 = .ok (.putfield 184, 3) := by decide +kernel
theorem dX7_next_170 : decode cX7_next 170 = .ok (.aload_n 0, 1) := by decide +kernel
theorem dX7_next_171 : decode cX7_next 171 = .ok (.aload_n 0, 1) := by decide +kernel
theorem dX7_next_172 : decode cX7_next 172 = .ok (.getfield 163, 3) := by decide +kernel
theorem dX7_next_175 : decode cX7_next 175 = .ok (.invokevirtual 166, 3) := by decide +kernel
theorem dX7_next_178 : decode cX7_next 178 = .ok (.i2l, 1) := by decide +kernel
theorem dX7_next_179 : decode cX7_next 179 = .ok (.ldc2_w 191, 3) := by decide +kernel
theorem dX7_next_182 : decode cX7_next 182 = .ok (.ldc2_w 193, 3) := by decide +kernel
theorem dX7_next_185 : decode cX7_next 185 = .ok (.invokestatic 102, 3) := by decide +kernel
theorem dX7_next_188 : decode cX7_next 188 = .ok (.ifCond .eq 59, 3) := by decide +kernel
theorem dX7_next_191 : decode cX7_next 191 = .ok (.aload_n 0, 1) := by decide +kernel
theorem dX7_next_192 : decode cX7_next 192 = .ok (.aload_n 0, 1) := by decide +kernel
theorem dX7_next_193 : decode cX7_next 193 = .ok (.getfield 163, 3) := by decide +kernel
theorem dX7_next_196 : decode cX7_next 196 = .ok (.aload_n 0, 1) := by decide +kernel
theorem dX7_next_197 : decode cX7_next 197 = .ok (.getfield 157, 3) := by decide +kernel
theorem dX7_next_200 : decode cX7_next 200 = .ok (.isub, 1) := by decide +kernel
theorem dX7_next_201 : decode cX7_next 201 = .ok (.iconst 4, 1) := by decide +kernel
theorem dX7_next_202 : decode cX7_next 202 = .ok (.if_icmp .ge 25, 3) := by decide +kernel
theorem dX7_next_205 : decode cX7_next 205 = .ok (.bipush 10, 2) := by decide +kernel
theorem dX7_next_207 : decode cX7_next 207 = .ok (.aload_n 0, 1) := by decide +kernel
theorem dX7_next_208 : decode cX7_next 208 = .ok (.getfield 184, 3) := by decide +kernel
theorem dX7_next_211 : decode cX7_next 211 = .ok (.imul, 1) := by decide +kernel
theorem dX7_next_212 : decode cX7_next 212 = .ok (.aload_n 0, 1) := by decide +kernel
theorem dX7_next_213 : decode cX7_next 213 = .ok (.aload_n 0, 1) := by decide +kernel
theorem dX7_next_214 : decode cX7_next 214 = .ok (.getfield 163, 3) := by decide +kernel
theorem dX7_next_217 : decode cX7_next 217 = .ok (.invokevirtual 166, 3) := by decide +kernel
theorem dX7_next_220 : decode cX7_next 220 = .ok (.iadd, 1) := by decide +kernel
theorem dX7_next_221 : decode cX7_next 221 = .ok (.bipush 48, 2) := by decide +kernel
theorem dX7_next_223 : decode cX7_next 223 = .ok (.isub, 1) := by decide +kernel
theorem dX7_next_224 : decode cX7_next 224 = .ok (.goto 7, 3) := by decide +kernel
theorem dX7_next_227 : decode cX7_next 227 = .ok (.aload_n 0, 1) := by decide +kernel
theorem dX7_next_228 : decode cX7_next 228 = .ok (.getfield 184, 3) := by decide +kernel
theorem dX7_next_231 : decode cX7_next 231 = .ok (.putfield 184, 3) := by decide +kernel
theorem dX7_next_234 : decode cX7_next 234 = .ok (.aload_n 0, 1) := by decide +kernel
theorem dX7_next_235 : decode cX7_next 235 = .ok (.dup, 1) := by decide +kernel
theorem dX7_next_236 : decode cX7_next 236 = .ok (.getfield 163, 3) := by decide +kernel
theorem dX7_next_239 : decode cX7_next 239 = .ok (.iconst 1, 1) := by decide +kernel
theorem dX7_next_240 : decode cX7_next 240 = .ok (.iadd, 1) := by decide +kernel
theorem dX7_next_241 : decode cX7_next 241 = .ok (.putfield 163, 3) := by decide +kernel
theorem dX7_next_244 : decode cX7_next 244 = .ok (.goto (-74), 3) := by decide +kernel
theorem dX7_next_247 : decode cX7_next 247 = .ok (.aload_n 0, 1) := by decide +kernel
theorem dX7_next_248 : decode cX7_next 248 = .ok (.aload_n 0, 1) := by decide +kernel
theorem dX7_next_249 : decode cX7_next 249 = .ok (.getfield 163, 3) := by decide +kernel
theorem dX7_next_252 : decode cX7_next 252 = .ok (.aload_n 0, 1) := by decide +kernel
theorem dX7_next_253 : decode cX7_next 253 = .ok (.getfield 157, 3) := by decide +kernel
theorem dX7_next_256 : decode cX7_next 256 = .ok (.isub, 1) := by decide +kernel
theorem dX7_next_257 : decode cX7_next 257 = .ok (.iconst 4, 1) := by decide +kernel
theorem dX7_next_258 : decode cX7_next 258 = .ok (.if_icmp .gt 7, 3) := by decide +kernel
theorem dX7_next_261 : decode cX7_next 261 = .ok (.iconst 1, 1) := by decide +kernel
theorem dX7_next_262 : decode cX7_next 262 = .ok (.goto 4, 3) := by decide +kernel
theorem dX7_next_265 : decode cX7_next 265 = .ok (.iconst 0, 1) := by decide +kernel
theorem dX7_next_266 : decode cX7_next 266 = .ok (.iconst 1, 1) := by decide +kernel
theorem dX7_next_267 : decode cX7_next 267 = .ok (.invokevirtual 187, 3) := by decide +kernel
theorem dX7_next_270 : decode cX7_next 270 = .ok (.goto 34, 3) := by decide +kernel
theorem dX7_next_273 : decode cX7_next 273 = .ok (.aload_n 0, 1) := by decide +kernel
theorem dX7_next_274 : decode cX7_next 274 = .ok (.iconst 3, 1) := by decide +kernel
theorem dX7_next_275 : decode cX7_next 275 = .ok (.putfield 173, 3) := by decide +kernel
theorem dX7_next_278 : decode cX7_next 278 = .ok (.aload_n 0, 1) := by decide +kernel
theorem dX7_next_279 : decode cX7_next 279 = .ok (.iload_n 1, 1) := by decide +kernel
theorem dX7_next_280 : decode cX7_next 280 = .ok (.bipush 59, 2) := by decide +kernel
theorem dX7_next_282 : decode cX7_next 282 = .ok (.if_icmp .ne 7, 3) := by decide +kernel
theorem dX7_next_285 : decode cX7_next 285 = .ok (.iconst 1, 1) := by decide +kernel
theorem dX7_next_286 : decode cX7_next 286 = .ok (.goto 4, 3) := by decide +kernel
theorem dX7_next_289 : decode cX7_next 289 = .ok (.iconst 0, 1) := by decide +kernel
theorem dX7_next_290 : decode cX7_next 290 = .ok (.iconst 1, 1) := by decide +kernel
theorem dX7_next_291 : decode cX7_next 291 = .ok (.invokevirtual 187, 3) := by decide +kernel
theorem dX7_next_294 : decode cX7_next 294 = .ok (.aload_n 0, 1) := by decide +kernel
theorem dX7_next_295 : decode cX7_next 295 = .ok (.dup, 1) := by decide +kernel
theorem dX7_next_296 : decode cX7_next 296 = .ok (.getfield 163, 3) := by decide +kernel
theorem dX7_next_299 : decode cX7_next 299 = .ok (.iconst 1, 1) := by decide +kernel
theorem dX7_next_300 : decode cX7_next 300 = .ok (.iadd, 1) := by decide +kernel
theorem dX7_next_301 : decode cX7_next 301 = .ok (.putfield 163, 3) := by decide +kernel
theorem dX7_next_304 : decode cX7_next 304 = .ok (.return_, 1) := by decide +kernel
theorem dX7_least_0 : decode cX7_least 0 = .ok (.iload_n 0, 1) := by decide +kernel
theorem dX7_least_1 : decode cX7_least 1 = .ok (.bipush 6, 2) := by decide +kernel
theorem dX7_least_3 : decode cX7_least 3 = .ok (.if_icmp .eq 9, 3) := by decide +kernel
theorem dX7_least_6 : decode cX7_least 6 = .ok (.iload_n 0, 1) := by decide +kernel
theorem dX7_least_7 : decode cX7_least 7 = .ok (.bipush 9, 2) := by decide +kernel
theorem dX7_least_9 : decode cX7_least 9 = .ok (.if_icmp .ne 7, 3) := by decide +kernel
theorem dX7_least_12 : decode cX7_least 12 = .ok (.iconst 1, 1) := by decide +kernel
theorem dX7_least_13 : decode cX7_least 13 = .ok (.goto 4, 3) := by decide +kernel
theorem dX7_least_16 : decode cX7_least 16 = .ok (.iconst 0, 1) := by decide +kernel
theorem dX7_least_17 : decode cX7_least 17 = .ok (.ireturn, 1) := by decide +kernel
theorem dX7_most_0 : decode cX7_most 0 = .ok (.iload_n 0, 1) := by decide +kernel
theorem dX7_most_1 : decode cX7_most 1 = .ok (.bipush 6, 2) := by decide +kernel
theorem dX7_most_3 : decode cX7_most 3 = .ok (.if_icmp .eq 9, 3) := by decide +kernel
theorem dX7_most_6 : decode cX7_most 6 = .ok (.iload_n 0, 1) := by decide +kernel
theorem dX7_most_7 : decode cX7_most 7 = .ok (.bipush 8, 2) := by decide +kernel
theorem dX7_most_9 : decode cX7_most 9 = .ok (.if_icmp .ne 9, 3) := by decide +kernel
theorem dX7_most_12 : decode cX7_most 12 = .ok (.sipush 999, 3) := by decide +kernel
theorem dX7_most_15 : decode cX7_most 15 = .ok (.goto 16, 3) := by decide +kernel
theorem dX7_most_18 : decode cX7_most 18 = .ok (.iload_n 0, 1) := by decide +kernel
theorem dX7_most_19 : decode cX7_most 19 = .ok (.bipush 9, 2) := by decide +kernel
theorem dX7_most_21 : decode cX7_most 21 = .ok (.if_icmp .ne 8, 3) := by decide +kernel
theorem dX7_most_24 : decode cX7_most 24 = .ok (.bipush 10, 2) := by decide +kernel
theorem dX7_most_26 : decode cX7_most 26 = .ok (.goto 5, 3) := by decide +kernel
theorem dX7_most_29 : decode cX7_most 29 = .ok (.bipush 100, 2) := by decide +kernel
theorem dX7_most_31 : decode cX7_most 31 = .ok (.ireturn, 1) := by decide +kernel
theorem dX7_readLine_0 : decode cX7_readLine 0 = .ok (.aload_n 0, 1) := by decide +kernel
theorem dX7_readLine_1 : decode cX7_readLine 1 = .ok (.getfield 184, 3) := by decide +kernel
theorem dX7_readLine_4 : decode cX7_readLine 4 = .ok (.istore_n 1, 1) := by decide +kernel
theorem dX7_readLine_5 : decode cX7_readLine 5 = .ok (.aload_n 0, 1) := by decide +kernel
theorem dX7_readLine_6 : decode cX7_readLine 6 = .ok (.aload_n 0, 1) := by decide +kernel
theorem dX7_readLine_7 : decode cX7_readLine 7 = .ok (.getfield 173, 3) := by decide +kernel
theorem dX7_readLine_10 : decode cX7_readLine 10 = .ok (.iconst 1, 1) := by decide +kernel
theorem dX7_readLine_11 : decode cX7_readLine 11 = .ok (.if_icmp .ne 7, 3) := by decide +kernel
theorem dX7_readLine_14 : decode cX7_readLine 14 = .ok (.iconst 1, 1) := by decide +kernel
theorem dX7_readLine_15 : decode cX7_readLine 15 = .ok (.goto 4, 3) := by decide +kernel
theorem dX7_readLine_18 : decode cX7_readLine 18 = .ok (.iconst 0, 1) := by decide +kernel
theorem dX7_readLine_19 : decode cX7_readLine 19 = .ok (.iconst 2, 1) := by decide +kernel
theorem dX7_readLine_20 : decode cX7_readLine 20 = .ok (.invokevirtual 187, 3) := by decide +kernel
theorem dX7_readLine_23 : decode cX7_readLine 23 = .ok (.aload_n 0, 1) := by decide +kernel
theorem dX7_readLine_24 : decode cX7_readLine 24 = .ok (.getfield 154, 3) := by decide +kernel
theorem dX7_readLine_27 : decode cX7_readLine 27 = .ok (.ifCond .le 4, 3) := by decide +kernel
theorem dX7_readLine_30 : decode cX7_readLine 30 = .ok (.return_, 1) := by decide +kernel
theorem dX7_readLine_31 : decode cX7_readLine 31 = .ok (.aload_n 0, 1) := by decide +kernel
theorem dX7_readLine_32 : decode cX7_readLine 32 = .ok (.aload_n 0, 1) := by decide +kernel
theorem dX7_readLine_33 : decode cX7_readLine 33 = .ok (.getfield 47, 3) := by decide +kernel
theorem dX7_readLine_36 : decode cX7_readLine 36 = .ok (.iload_n 1, 1) := by decide +kernel
theorem dX7_readLine_37 : decode cX7_readLine 37 = .ok (.baload, 1) := by decide +kernel
theorem dX7_readLine_38 : decode cX7_readLine 38 = .ok (.ifCond .ne 7, 3) := by decide +kernel
theorem dX7_readLine_41 : decode cX7_readLine 41 = .ok (.iconst 1, 1) := by decide +kernel
theorem dX7_readLine_42 : decode cX7_readLine 42 = .ok (.goto 4, 3) := by decide +kernel
theorem dX7_readLine_45 : decode cX7_readLine 45 = .ok (.iconst 0, 1) := by decide +kernel
theorem dX7_readLine_46 : decode cX7_readLine 46 = .ok (.iconst 4, 1) := by decide +kernel
theorem dX7_readLine_47 : decode cX7_readLine 47 = .ok (.invokevirtual 187, 3) := by decide +kernel
theorem dX7_readLine_50 : decode cX7_readLine 50 = .ok (.aload_n 0, 1) := by decide +kernel
theorem dX7_readLine_51 : decode cX7_readLine 51 = .ok (.invokevirtual 195, 3) := by decide +kernel
theorem dX7_readLine_54 : decode cX7_readLine 54 = .ok (.aload_n 0, 1) := by decide +kernel
theorem dX7_readLine_55 : decode cX7_readLine 55 = .ok (.getfield 154, 3) := by decide +kernel
theorem dX7_readLine_58 : decode cX7_readLine 58 = .ok (.ifCond .ne 21, 3) := by decide +kernel
theorem dX7_readLine_61 : decode cX7_readLine 61 = .ok (.aload_n 0, 1) := by decide +kernel
theorem dX7_readLine_62 : decode cX7_readLine 62 = .ok (.aload_n 0, 1) := by decide +kernel
theorem dX7_readLine_63 : decode cX7_readLine 63 = .ok (.getfield 173, 3) := by decide +kernel
theorem dX7_readLine_66 : decode cX7_readLine 66 = .ok (.iconst 2, 1) := by decide +kernel
theorem dX7_readLine_67 : decode cX7_readLine 67 = .ok (.if_icmp .ne 7, 3) := by decide +kernel
theorem dX7_readLine_70 : decode cX7_readLine 70 = .ok (.iconst 1, 1) := by decide +kernel
theorem dX7_readLine_71 : decode cX7_readLine 71 = .ok (.goto 4, 3) := by decide +kernel
theorem dX7_readLine_74 : decode cX7_readLine 74 = .ok (.iconst 0, 1) := by decide +kernel
theorem dX7_readLine_75 : decode cX7_readLine 75 = .ok (.iconst 2, 1) := by decide +kernel
theorem dX7_readLine_76 : decode cX7_readLine 76 = .ok (.invokevirtual 187, 3) := by decide +kernel
theorem dX7_readLine_79 : decode cX7_readLine 79 = .ok (.aload_n 0, 1) := by decide +kernel
theorem dX7_readLine_80 : decode cX7_readLine 80 = .ok (.getfield 154, 3) := by decide +kernel
theorem dX7_readLine_83 : decode cX7_readLine 83 = .ok (.ifCond .ne 26, 3) := by decide +kernel
theorem dX7_readLine_86 : decode cX7_readLine 86 = .ok (.aload_n 0, 1) := by decide +kernel
theorem dX7_readLine_87 : decode cX7_readLine 87 = .ok (.aload_n 0, 1) := by decide +kernel
theorem dX7_readLine_88 : decode cX7_readLine 88 = .ok (.getfield 184, 3) := by decide +kernel
theorem dX7_readLine_91 : decode cX7_readLine 91 = .ok (.i2l, 1) := by decide +kernel
end
section
theorem dX7_readLine_92 : decode cX7_readLine 92 = .ok (.iload_n 1, 1) := by decide +kernel
theorem dX7_readLine_93 : decode cX7_readLine 93 = .ok (.invokestatic 198, 3) := by decide +kernel
theorem dX7_readLine_96 : decode cX7_readLine 96 = .ok (.i2l, 1) := by decide +kernel
theorem dX7_readLine_97 : decode cX7_readLine 97 = .ok (.iload_n 1, 1) := by decide +kernel
theorem dX7_readLine_98 : decode cX7_readLine 98 = .ok (.invokestatic 201, 3) := by decide +kernel
theorem dX7_readLine_101 : decode cX7_readLine 101 = .ok (.i2l, 1) := by decide +kernel
theorem dX7_readLine_102 : decode cX7_readLine 102 = .ok (.invokestatic 102, 3) := by decide +kernel
theorem dX7_readLine_105 : decode cX7_readLine 105 = .ok (.iconst 3, 1) := by decide +kernel
theorem dX7_readLine_106 : decode cX7_readLine 106 = .ok (.invokevirtual 187, 3) := by decide +kernel
theorem dX7_readLine_109 : decode cX7_readLine 109 = .ok (.aload_n 0, 1) := by decide +kernel
theorem dX7_readLine_110 : decode cX7_readLine 110 = .ok (.getfield 184, 3) := by decide +kernel
theorem dX7_readLine_113 : decode cX7_readLine 113 = .ok (.istore_n 2, 1) := by decide +kernel
theorem dX7_readLine_114 : decode cX7_readLine 114 = .ok (.aload_n 0, 1) := by decide +kernel
theorem dX7_readLine_115 : decode cX7_readLine 115 = .ok (.invokevirtual 195, 3) := by decide +kernel
theorem dX7_readLine_118 : decode cX7_readLine 118 = .ok (.aload_n 0, 1) := by decide +kernel
theorem dX7_readLine_119 : decode cX7_readLine 119 = .ok (.getfield 154, 3) := by decide +kernel
theorem dX7_readLine_122 : decode cX7_readLine 122 = .ok (.ifCond .ne 21, 3) := by decide +kernel
theorem dX7_readLine_125 : decode cX7_readLine 125 = .ok (.aload_n 0, 1) := by decide +kernel
theorem dX7_readLine_126 : decode cX7_readLine 126 = .ok (.aload_n 0, 1) := by decide +kernel
theorem dX7_readLine_127 : decode cX7_readLine 127 = .ok (.getfield 173, 3) := by decide +kernel
theorem dX7_readLine_130 : decode cX7_readLine 130 = .ok (.iconst 3, 1) := by decide +kernel
theorem dX7_readLine_131 : decode cX7_readLine 131 = .ok (.if_icmp .ne 7, 3) := by decide +kernel
theorem dX7_readLine_134 : decode cX7_readLine 134 = .ok (.iconst 1, 1) := by decide +kernel
theorem dX7_readLine_135 : decode cX7_readLine 135 = .ok (.goto 4, 3) := by decide +kernel
theorem dX7_readLine_138 : decode cX7_readLine 138 = .ok (.iconst 0, 1) := by decide +kernel
theorem dX7_readLine_139 : decode cX7_readLine 139 = .ok (.iconst 2, 1) := by decide +kernel
theorem dX7_readLine_140 : decode cX7_readLine 140 = .ok (.invokevirtual 187, 3) := by decide +kernel
theorem dX7_readLine_143 : decode cX7_readLine 143 = .ok (.aload_n 0, 1) := by decide +kernel
theorem dX7_readLine_144 : decode cX7_readLine 144 = .ok (.getfield 154, 3) := by decide +kernel
theorem dX7_readLine_147 : decode cX7_readLine 147 = .ok (.ifCond .ne 17, 3) := by decide +kernel
theorem dX7_readLine_150 : decode cX7_readLine 150 = .ok (.aload_n 0, 1) := by decide +kernel
theorem dX7_readLine_151 : decode cX7_readLine 151 = .ok (.getfield 47, 3) := by decide +kernel
theorem dX7_readLine_154 : decode cX7_readLine 154 = .ok (.iload_n 1, 1) := by decide +kernel
theorem dX7_readLine_155 : decode cX7_readLine 155 = .ok (.iconst 1, 1) := by decide +kernel
theorem dX7_readLine_156 : decode cX7_readLine 156 = .ok (.bastore, 1) := by decide +kernel
theorem dX7_readLine_157 : decode cX7_readLine 157 = .ok (.aload_n 0, 1) := by decide +kernel
theorem dX7_readLine_158 : decode cX7_readLine 158 = .ok (.getfield 44, 3) := by decide +kernel
theorem dX7_readLine_161 : decode cX7_readLine 161 = .ok (.iload_n 1, 1) := by decide +kernel
theorem dX7_readLine_162 : decode cX7_readLine 162 = .ok (.iload_n 2, 1) := by decide +kernel
theorem dX7_readLine_163 : decode cX7_readLine 163 = .ok (.iastore, 1) := by decide +kernel
theorem dX7_readLine_164 : decode cX7_readLine 164 = .ok (.aload_n 0, 1) := by decide +kernel
theorem dX7_readLine_165 : decode cX7_readLine 165 = .ok (.invokevirtual 195, 3) := by decide +kernel
theorem dX7_readLine_168 : decode cX7_readLine 168 = .ok (.return_, 1) := by decide +kernel
theorem dX7_rules_0 : decode cX7_rules 0 = .ok (.iconst 0, 1) := by decide +kernel
theorem dX7_rules_1 : decode cX7_rules 1 = .ok (.istore_n 1, 1) := by decide +kernel
theorem dX7_rules_2 : decode cX7_rules 2 = .ok (.aload_n 0, 1) := by decide +kernel
theorem dX7_rules_3 : decode cX7_rules 3 = .ok (.iconst 0, 1) := by decide +kernel
theorem dX7_rules_4 : decode cX7_rules 4 = .ok (.putfield 154, 3) := by decide +kernel
theorem dX7_rules_7 : decode cX7_rules 7 = .ok (.aload_n 0, 1) := by decide +kernel
theorem dX7_rules_8 : decode cX7_rules 8 = .ok (.iconst 0, 1) := by decide +kernel
theorem dX7_rules_9 : decode cX7_rules 9 = .ok (.putfield 163, 3) := by decide +kernel
theorem dX7_rules_12 : decode cX7_rules 12 = .ok (.aload_n 0, 1) := by decide +kernel
theorem dX7_rules_13 : decode cX7_rules 13 = .ok (.invokevirtual 92, 3) := by decide +kernel
theorem dX7_rules_16 : decode cX7_rules 16 = .ok (.aload_n 0, 1) := by decide +kernel
theorem dX7_rules_17 : decode cX7_rules 17 = .ok (.invokevirtual 195, 3) := by decide +kernel
theorem dX7_rules_20 : decode cX7_rules 20 = .ok (.aload_n 0, 1) := by decide +kernel
theorem dX7_rules_21 : decode cX7_rules 21 = .ok (.getfield 154, 3) := by decide +kernel
theorem dX7_rules_24 : decode cX7_rules 24 = .ok (.ifCond .ne 20, 3) := by decide +kernel
theorem dX7_rules_27 : decode cX7_rules 27 = .ok (.aload_n 0, 1) := by decide +kernel
theorem dX7_rules_28 : decode cX7_rules 28 = .ok (.getfield 173, 3) := by decide +kernel
theorem dX7_rules_31 : decode cX7_rules 31 = .ok (.ifCond .eq 13, 3) := by decide +kernel
theorem dX7_rules_34 : decode cX7_rules 34 = .ok (.aload_n 0, 1) := by decide +kernel
theorem dX7_rules_35 : decode cX7_rules 35 = .ok (.invokevirtual 204, 3) := by decide +kernel
theorem dX7_rules_38 : decode cX7_rules 38 = .ok (.iinc 1 1, 3) := by decide +kernel
theorem dX7_rules_41 : decode cX7_rules 41 = .ok (.goto (-21), 3) := by decide +kernel
theorem dX7_rules_44 : decode cX7_rules 44 = .ok (.aload_n 0, 1) := by decide +kernel
theorem dX7_rules_45 : decode cX7_rules 45 = .ok (.iconst 0, 1) := by decide +kernel
theorem dX7_rules_46 : decode cX7_rules 46 = .ok (.putfield 149, 3) := by decide +kernel
theorem dX7_rules_49 : decode cX7_rules 49 = .ok (.aload_n 0, 1) := by decide +kernel
theorem dX7_rules_50 : decode cX7_rules 50 = .ok (.getfield 154, 3) := by decide +kernel
theorem dX7_rules_53 : decode cX7_rules 53 = .ok (.ifCond .le 11, 3) := by decide +kernel
theorem dX7_rules_56 : decode cX7_rules 56 = .ok (.bipush (-10), 2) := by decide +kernel
theorem dX7_rules_58 : decode cX7_rules 58 = .ok (.aload_n 0, 1) := by decide +kernel
theorem dX7_rules_59 : decode cX7_rules 59 = .ok (.getfield 160, 3) := by decide +kernel
theorem dX7_rules_62 : decode cX7_rules 62 = .ok (.isub, 1) := by decide +kernel
theorem dX7_rules_63 : decode cX7_rules 63 = .ok (.ireturn, 1) := by decide +kernel
theorem dX7_rules_64 : decode cX7_rules 64 = .ok (.aload_n 0, 1) := by decide +kernel
theorem dX7_rules_65 : decode cX7_rules 65 = .ok (.invokevirtual 95, 3) := by decide +kernel
theorem dX7_rules_68 : decode cX7_rules 68 = .ok (.iload_n 1, 1) := by decide +kernel
theorem dX7_rules_69 : decode cX7_rules 69 = .ok (.ireturn, 1) := by decide +kernel
theorem dX7_fault_0 : decode cX7_fault 0 = .ok (.aload_n 0, 1) := by decide +kernel
theorem dX7_fault_1 : decode cX7_fault 1 = .ok (.getfield 154, 3) := by decide +kernel
theorem dX7_fault_4 : decode cX7_fault 4 = .ok (.ireturn, 1) := by decide +kernel
theorem dX7_rule_0 : decode cX7_rule 0 = .ok (.iload_n 1, 1) := by decide +kernel
theorem dX7_rule_1 : decode cX7_rule 1 = .ok (.i2l, 1) := by decide +kernel
theorem dX7_rule_2 : decode cX7_rule 2 = .ok (.lconst 0, 1) := by decide +kernel
theorem dX7_rule_3 : decode cX7_rule 3 = .ok (.ldc2_w 207, 3) := by decide +kernel
theorem dX7_rule_6 : decode cX7_rule 6 = .ok (.invokestatic 102, 3) := by decide +kernel
theorem dX7_rule_9 : decode cX7_rule 9 = .ok (.ifCond .eq 12, 3) := by decide +kernel
theorem dX7_rule_12 : decode cX7_rule 12 = .ok (.aload_n 0, 1) := by decide +kernel
theorem dX7_rule_13 : decode cX7_rule 13 = .ok (.getfield 41, 3) := by decide +kernel
theorem dX7_rule_16 : decode cX7_rule 16 = .ok (.iload_n 1, 1) := by decide +kernel
theorem dX7_rule_17 : decode cX7_rule 17 = .ok (.iaload, 1) := by decide +kernel
theorem dX7_rule_18 : decode cX7_rule 18 = .ok (.goto 4, 3) := by decide +kernel
theorem dX7_rule_21 : decode cX7_rule 21 = .ok (.iconst (-1), 1) := by decide +kernel
theorem dX7_rule_22 : decode cX7_rule 22 = .ok (.ireturn, 1) := by decide +kernel
theorem dX7_begins_0 : decode cX7_begins 0 = .ok (.iconst 0, 1) := by decide +kernel
theorem dX7_begins_1 : decode cX7_begins 1 = .ok (.istore_n 1, 1) := by decide +kernel
theorem dX7_begins_2 : decode cX7_begins 2 = .ok (.iload_n 1, 1) := by decide +kernel
theorem dX7_begins_3 : decode cX7_begins 3 = .ok (.sipush 196, 3) := by decide +kernel
theorem dX7_begins_6 : decode cX7_begins 6 = .ok (.if_icmp .ge 16, 3) := by decide +kernel
theorem dX7_begins_9 : decode cX7_begins 9 = .ok (.aload_n 0, 1) := by decide +kernel
theorem dX7_begins_10 : decode cX7_begins 10 = .ok (.getfield 53, 3) := by decide +kernel
theorem dX7_begins_13 : decode cX7_begins 13 = .ok (.iload_n 1, 1) := by decide +kernel
theorem dX7_begins_14 : decode cX7_begins 14 = .ok (.iconst 0, 1) := by decide +kernel
theorem dX7_begins_15 : decode cX7_begins 15 = .ok (.iastore, 1) := by decide +kernel
theorem dX7_begins_16 : decode cX7_begins 16 = .ok (.iinc 1 1, 3) := by decide +kernel
theorem dX7_begins_19 : decode cX7_begins 19 = .ok (.goto (-17), 3) := by decide +kernel
theorem dX7_begins_22 : decode cX7_begins 22 = .ok (.iconst 0, 1) := by decide +kernel
theorem dX7_begins_23 : decode cX7_begins 23 = .ok (.istore_n 1, 1) := by decide +kernel
theorem dX7_begins_24 : decode cX7_begins 24 = .ok (.iload_n 1, 1) := by decide +kernel
theorem dX7_begins_25 : decode cX7_begins 25 = .ok (.aload_n 0, 1) := by decide +kernel
theorem dX7_begins_26 : decode cX7_begins 26 = .ok (.getfield 98, 3) := by decide +kernel
theorem dX7_begins_29 : decode cX7_begins 29 = .ok (.if_icmp .ge 24, 3) := by decide +kernel
theorem dX7_begins_32 : decode cX7_begins 32 = .ok (.aload_n 0, 1) := by decide +kernel
theorem dX7_begins_33 : decode cX7_begins 33 = .ok (.getfield 53, 3) := by decide +kernel
theorem dX7_begins_36 : decode cX7_begins 36 = .ok (.sipush 168, 3) := by decide +kernel
theorem dX7_begins_39 : decode cX7_begins 39 = .ok (.iload_n 1, 1) := by decide +kernel
theorem dX7_begins_40 : decode cX7_begins 40 = .ok (.iadd, 1) := by decide +kernel
theorem dX7_begins_41 : decode cX7_begins 41 = .ok (.aload_n 0, 1) := by decide +kernel
theorem dX7_begins_42 : decode cX7_begins 42 = .ok (.iload_n 1, 1) := by decide +kernel
theorem dX7_begins_43 : decode cX7_begins 43 = .ok (.invokevirtual 141, 3) := by decide +kernel
theorem dX7_begins_46 : decode cX7_begins 46 = .ok (.iastore, 1) := by decide +kernel
theorem dX7_begins_47 : decode cX7_begins 47 = .ok (.iinc 1 1, 3) := by decide +kernel
theorem dX7_begins_50 : decode cX7_begins 50 = .ok (.goto (-26), 3) := by decide +kernel
theorem dX7_begins_53 : decode cX7_begins 53 = .ok (.iconst 0, 1) := by decide +kernel
theorem dX7_begins_54 : decode cX7_begins 54 = .ok (.istore_n 1, 1) := by decide +kernel
theorem dX7_begins_55 : decode cX7_begins 55 = .ok (.iload_n 1, 1) := by decide +kernel
theorem dX7_begins_56 : decode cX7_begins 56 = .ok (.aload_n 0, 1) := by decide +kernel
theorem dX7_begins_57 : decode cX7_begins 57 = .ok (.getfield 121, 3) := by decide +kernel
theorem dX7_begins_60 : decode cX7_begins 60 = .ok (.if_icmp .ge 65, 3) := by decide +kernel
theorem dX7_begins_63 : decode cX7_begins 63 = .ok (.aload_n 0, 1) := by decide +kernel
theorem dX7_begins_64 : decode cX7_begins 64 = .ok (.iload_n 1, 1) := by decide +kernel
theorem dX7_begins_65 : decode cX7_begins 65 = .ok (.invokevirtual 136, 3) := by decide +kernel
theorem dX7_begins_68 : decode cX7_begins 68 = .ok (.istore_n 2, 1) := by decide +kernel
theorem dX7_begins_69 : decode cX7_begins 69 = .ok (.aload_n 0, 1) := by decide +kernel
theorem dX7_begins_70 : decode cX7_begins 70 = .ok (.getfield 53, 3) := by decide +kernel
theorem dX7_begins_73 : decode cX7_begins 73 = .ok (.bipush 14, 2) := by decide +kernel
theorem dX7_begins_75 : decode cX7_begins 75 = .ok (.aload_n 0, 1) := by decide +kernel
theorem dX7_begins_76 : decode cX7_begins 76 = .ok (.getfield 26, 3) := by decide +kernel
theorem dX7_begins_79 : decode cX7_begins 79 = .ok (.iload_n 1, 1) := by decide +kernel
theorem dX7_begins_80 : decode cX7_begins 80 = .ok (.iaload, 1) := by decide +kernel
theorem dX7_begins_81 : decode cX7_begins 81 = .ok (.imul, 1) := by decide +kernel
theorem dX7_begins_82 : decode cX7_begins 82 = .ok (.aload_n 0, 1) := by decide +kernel
theorem dX7_begins_83 : decode cX7_begins 83 = .ok (.getfield 29, 3) := by decide +kernel
theorem dX7_begins_86 : decode cX7_begins 86 = .ok (.iload_n 1, 1) := by decide +kernel
theorem dX7_begins_87 : decode cX7_begins 87 = .ok (.iaload, 1) := by decide +kernel
theorem dX7_begins_88 : decode cX7_begins 88 = .ok (.iadd, 1) := by decide +kernel
theorem dX7_begins_89 : decode cX7_begins 89 = .ok (.dup2, 1) := by decide +kernel
theorem dX7_begins_90 : decode cX7_begins 90 = .ok (.iaload, 1) := by decide +kernel
theorem dX7_begins_91 : decode cX7_begins 91 = .ok (.iload_n 2, 1) := by decide +kernel
theorem dX7_begins_92 : decode cX7_begins 92 = .ok (.iadd, 1) := by decide +kernel
theorem dX7_begins_93 : decode cX7_begins 93 = .ok (.iastore, 1) := by decide +kernel
theorem dX7_begins_94 : decode cX7_begins 94 = .ok (.aload_n 0, 1) := by decide +kernel
theorem dX7_begins_95 : decode cX7_begins 95 = .ok (.getfield 53, 3) := by decide +kernel
theorem dX7_begins_98 : decode cX7_begins 98 = .ok (.bipush 14, 2) := by decide +kernel
theorem dX7_begins_100 : decode cX7_begins 100 = .ok (.aload_n 0, 1) := by decide +kernel
theorem dX7_begins_101 : decode cX7_begins 101 = .ok (.getfield 29, 3) := by decide +kernel
theorem dX7_begins_104 : decode cX7_begins 104 = .ok (.iload_n 1, 1) := by decide +kernel
theorem dX7_begins_105 : decode cX7_begins 105 = .ok (.iaload, 1) := by decide +kernel
theorem dX7_begins_106 : decode cX7_begins 106 = .ok (.imul, 1) := by decide +kernel
theorem dX7_begins_107 : decode cX7_begins 107 = .ok (.aload_n 0, 1) := by decide +kernel
theorem dX7_begins_108 : decode cX7_begins 108 = .ok (.getfield 26, 3) := by decide +kernel
theorem dX7_begins_111 : decode cX7_begins 111 = .ok (.iload_n 1, 1) := by decide +kernel
theorem dX7_begins_112 : decode cX7_begins 112 = .ok (.iaload, 1) := by decide +kernel
theorem dX7_begins_113 : decode cX7_begins 113 = .ok (.iadd, 1) := by decide +kernel
theorem dX7_begins_114 : decode cX7_begins 114 = .ok (.dup2, 1) := by decide +kernel
theorem dX7_begins_115 : decode cX7_begins 115 = .ok (.iaload, 1) := by decide +kernel
theorem dX7_begins_116 : decode cX7_begins 116 = .ok (.iload_n 2, 1) := by decide +kernel
theorem dX7_begins_117 : decode cX7_begins 117 = .ok (.iadd, 1) := by decide +kernel
theorem dX7_begins_118 : decode cX7_begins 118 = .ok (.iastore, 1) := by decide +kernel
theorem dX7_begins_119 : decode cX7_begins 119 = .ok (.iinc 1 1, 3) := by decide +kernel
theorem dX7_begins_122 : decode cX7_begins 122 = .ok (.goto (-67), 3) := by decide +kernel
theorem dX7_begins_125 : decode cX7_begins 125 = .ok (.return_, 1) := by decide +kernel
theorem dX7_reaches_0 : decode cX7_reaches 0 = .ok (.iconst 0, 1) := by decide +kernel
theorem dX7_reaches_1 : decode cX7_reaches 1 = .ok (.istore_n 1, 1) := by decide +kernel
theorem dX7_reaches_2 : decode cX7_reaches 2 = .ok (.iload_n 1, 1) := by decide +kernel
theorem dX7_reaches_3 : decode cX7_reaches 3 = .ok (.bipush 14, 2) := by decide +kernel
theorem dX7_reaches_5 : decode cX7_reaches 5 = .ok (.if_icmp .ge 17, 3) := by decide +kernel
theorem dX7_reaches_8 : decode cX7_reaches 8 = .ok (.aload_n 0, 1) := by decide +kernel
theorem dX7_reaches_9 : decode cX7_reaches 9 = .ok (.getfield 56, 3) := by decide +kernel
theorem dX7_reaches_12 : decode cX7_reaches 12 = .ok (.iload_n 1, 1) := by decide +kernel
theorem dX7_reaches_13 : decode cX7_reaches 13 = .ok (.bipush (-4), 2) := by decide +kernel
theorem dX7_reaches_15 : decode cX7_reaches 15 = .ok (.iastore, 1) := by decide +kernel
theorem dX7_reaches_16 : decode cX7_reaches 16 = .ok (.iinc 1 1, 3) := by decide +kernel
theorem dX7_reaches_19 : decode cX7_reaches 19 = .ok (.goto (-17), 3) := by decide +kernel
theorem dX7_reaches_22 : decode cX7_reaches 22 = .ok (.aload_n 0, 1) := by decide +kernel
theorem dX7_reaches_23 : decode cX7_reaches 23 = .ok (.getfield 56, 3) := by decide +kernel
theorem dX7_reaches_26 : decode cX7_reaches 26 = .ok (.bipush 12, 2) := by decide +kernel
theorem dX7_reaches_28 : decode cX7_reaches 28 = .ok (.bipush 12, 2) := by decide +kernel
theorem dX7_reaches_30 : decode cX7_reaches 30 = .ok (.iastore, 1) := by decide +kernel
theorem dX7_reaches_31 : decode cX7_reaches 31 = .ok (.aload_n 0, 1) := by decide +kernel
theorem dX7_reaches_32 : decode cX7_reaches 32 = .ok (.getfield 59, 3) := by decide +kernel
theorem dX7_reaches_35 : decode cX7_reaches 35 = .ok (.iconst 0, 1) := by decide +kernel
theorem dX7_reaches_36 : decode cX7_reaches 36 = .ok (.bipush 12, 2) := by decide +kernel
theorem dX7_reaches_38 : decode cX7_reaches 38 = .ok (.iastore, 1) := by decide +kernel
theorem dX7_reaches_39 : decode cX7_reaches 39 = .ok (.iconst 1, 1) := by decide +kernel
theorem dX7_reaches_40 : decode cX7_reaches 40 = .ok (.istore_n 1, 1) := by decide +kernel
theorem dX7_reaches_41 : decode cX7_reaches 41 = .ok (.iconst 0, 1) := by decide +kernel
theorem dX7_reaches_42 : decode cX7_reaches 42 = .ok (.istore_n 2, 1) := by decide +kernel
theorem dX7_reaches_43 : decode cX7_reaches 43 = .ok (.iload_n 2, 1) := by decide +kernel
theorem dX7_reaches_44 : decode cX7_reaches 44 = .ok (.iload_n 1, 1) := by decide +kernel
theorem dX7_reaches_45 : decode cX7_reaches 45 = .ok (.if_icmp .ge 75, 3) := by decide +kernel
theorem dX7_reaches_48 : decode cX7_reaches 48 = .ok (.iconst 0, 1) := by decide +kernel
theorem dX7_reaches_49 : decode cX7_reaches 49 = .ok (.istore_n 3, 1) := by decide +kernel
theorem dX7_reaches_50 : decode cX7_reaches 50 = .ok (.iload_n 3, 1) := by decide +kernel
theorem dX7_reaches_51 : decode cX7_reaches 51 = .ok (.bipush 14, 2) := by decide +kernel
theorem dX7_reaches_53 : decode cX7_reaches 53 = .ok (.if_icmp .ge 61, 3) := by decide +kernel
theorem dX7_reaches_56 : decode cX7_reaches 56 = .ok (.aload_n 0, 1) := by decide +kernel
theorem dX7_reaches_57 : decode cX7_reaches 57 = .ok (.getfield 56, 3) := by decide +kernel
theorem dX7_reaches_60 : decode cX7_reaches 60 = .ok (.iload_n 3, 1) := by decide +kernel
theorem dX7_reaches_61 : decode cX7_reaches 61 = .ok (.iaload, 1) := by decide +kernel
theorem dX7_reaches_62 : decode cX7_reaches 62 = .ok (.bipush (-4), 2) := by decide +kernel
theorem dX7_reaches_64 : decode cX7_reaches 64 = .ok (.if_icmp .ne 44, 3) := by decide +kernel
theorem dX7_reaches_67 : decode cX7_reaches 67 = .ok (.aload_n 0, 1) := by decide +kernel
theorem dX7_reaches_68 : decode cX7_reaches 68 = .ok (.getfield 53, 3) := by decide +kernel
theorem dX7_reaches_71 : decode cX7_reaches 71 = .ok (.bipush 14, 2) := by decide +kernel
theorem dX7_reaches_73 : decode cX7_reaches 73 = .ok (.aload_n 0, 1) := by decide +kernel
theorem dX7_reaches_74 : decode cX7_reaches 74 = .ok (.getfield 59, 3) := by decide +kernel
theorem dX7_reaches_77 : decode cX7_reaches 77 = .ok (.iload_n 2, 1) := by decide +kernel
theorem dX7_reaches_78 : decode cX7_reaches 78 = .ok (.iaload, 1) := by decide +kernel
theorem dX7_reaches_79 : decode cX7_reaches 79 = .ok (.imul, 1) := by decide +kernel
theorem dX7_reaches_80 : decode cX7_reaches 80 = .ok (.iload_n 3, 1) := by decide +kernel
theorem dX7_reaches_81 : decode cX7_reaches 81 = .ok (.iadd, 1) := by decide +kernel
theorem dX7_reaches_82 : decode cX7_reaches 82 = .ok (.iaload, 1) := by decide +kernel
theorem dX7_reaches_83 : decode cX7_reaches 83 = .ok (.ifCond .le 25, 3) := by decide +kernel
theorem dX7_reaches_86 : decode cX7_reaches 86 = .ok (.aload_n 0, 1) := by decide +kernel
theorem dX7_reaches_87 : decode cX7_reaches 87 = .ok (.getfield 56, 3) := by decide +kernel
theorem dX7_reaches_90 : decode cX7_reaches 90 = .ok (.iload_n 3, 1) := by decide +kernel
theorem dX7_reaches_91 : decode cX7_reaches 91 = .ok (.aload_n 0, 1) := by decide +kernel
theorem dX7_reaches_92 : decode cX7_reaches 92 = .ok (.getfield 59, 3) := by decide +kernel
theorem dX7_reaches_95 : decode cX7_reaches 95 = .ok (.iload_n 2, 1) := by decide +kernel
theorem dX7_reaches_96 : decode cX7_reaches 96 = .ok (.iaload, 1) := by decide +kernel
theorem dX7_reaches_97 : decode cX7_reaches 97 = .ok (.iastore, 1) := by decide +kernel
theorem dX7_reaches_98 : decode cX7_reaches 98 = .ok (.aload_n 0, 1) := by decide +kernel
theorem dX7_reaches_99 : decode cX7_reaches 99 = .ok (.getfield 59, 3) := by decide +kernel
theorem dX7_reaches_102 : decode cX7_reaches 102 = .ok (.iload_n 1, 1) := by decide +kernel
theorem dX7_reaches_103 : decode cX7_reaches 103 = .ok (.iload_n 3, 1) := by decide +kernel
theorem dX7_reaches_104 : decode cX7_reaches 104 = .ok (.iastore, 1) := by decide +kernel
theorem dX7_reaches_105 : decode cX7_reaches 105 = .ok (.iinc 1 1, 3) := by decide +kernel
theorem dX7_reaches_108 : decode cX7_reaches 108 = .ok (.iinc 3 1, 3) := by decide +kernel
theorem dX7_reaches_111 : decode cX7_reaches 111 = .ok (.goto (-61), 3) := by decide +kernel
theorem dX7_reaches_114 : decode cX7_reaches 114 = .ok (.iinc 2 1, 3) := by decide +kernel
theorem dX7_reaches_117 : decode cX7_reaches 117 = .ok (.goto (-74), 3) := by decide +kernel
theorem dX7_reaches_120 : decode cX7_reaches 120 = .ok (.aload_n 0, 1) := by decide +kernel
theorem dX7_reaches_121 : decode cX7_reaches 121 = .ok (.getfield 56, 3) := by decide +kernel
theorem dX7_reaches_124 : decode cX7_reaches 124 = .ok (.bipush 13, 2) := by decide +kernel
theorem dX7_reaches_126 : decode cX7_reaches 126 = .ok (.iaload, 1) := by decide +kernel
theorem dX7_reaches_127 : decode cX7_reaches 127 = .ok (.bipush (-4), 2) := by decide +kernel
theorem dX7_reaches_129 : decode cX7_reaches 129 = .ok (.if_icmp .eq 7, 3) := by decide +kernel
theorem dX7_reaches_132 : decode cX7_reaches 132 = .ok (.iconst 1, 1) := by decide +kernel
theorem dX7_reaches_133 : decode cX7_reaches 133 = .ok (.goto 4, 3) := by decide +kernel
theorem dX7_reaches_136 : decode cX7_reaches 136 = .ok (.iconst 0, 1) := by decide +kernel
theorem dX7_reaches_137 : decode cX7_reaches 137 = .ok (.ireturn, 1) := by decide +kernel
theorem dX7_flows_0 : decode cX7_flows 0 = .ok (.iconst 0, 1) := by decide +kernel
theorem dX7_flows_1 : decode cX7_flows 1 = .ok (.istore_n 1, 1) := by decide +kernel
theorem dX7_flows_2 : decode cX7_flows 2 = .ok (.aload_n 0, 1) := by decide +kernel
theorem dX7_flows_3 : decode cX7_flows 3 = .ok (.invokevirtual 209, 3) := by decide +kernel
theorem dX7_flows_6 : decode cX7_flows 6 = .ok (.ifCond .eq 122, 3) := by decide +kernel
theorem dX7_flows_9 : decode cX7_flows 9 = .ok (.ldc 213, 2) := by decide +kernel
theorem dX7_flows_11 : decode cX7_flows 11 = .ok (.istore_n 2, 1) := by decide +kernel
theorem dX7_flows_12 : decode cX7_flows 12 = .ok (.bipush 13, 2) := by decide +kernel
theorem dX7_flows_14 : decode cX7_flows 14 = .ok (.istore_n 3, 1) := by decide +kernel
theorem dX7_flows_15 : decode cX7_flows 15 = .ok (.iload_n 3, 1) := by decide +kernel
theorem dX7_flows_16 : decode cX7_flows 16 = .ok (.bipush 12, 2) := by decide +kernel
theorem dX7_flows_18 : decode cX7_flows 18 = .ok (.if_icmp .eq 44, 3) := by decide +kernel
theorem dX7_flows_21 : decode cX7_flows 21 = .ok (.aload_n 0, 1) := by decide +kernel
theorem dX7_flows_22 : decode cX7_flows 22 = .ok (.getfield 53, 3) := by decide +kernel
theorem dX7_flows_25 : decode cX7_flows 25 = .ok (.bipush 14, 2) := by decide +kernel
theorem dX7_flows_27 : decode cX7_flows 27 = .ok (.aload_n 0, 1) := by decide +kernel
theorem dX7_flows_28 : decode cX7_flows 28 = .ok (.getfield 56, 3) := by decide +kernel
theorem dX7_flows_31 : decode cX7_flows 31 = .ok (.iload_n 3, 1) := by decide +kernel
theorem dX7_flows_32 : decode cX7_flows 32 = .ok (.iaload, 1) := by decide +kernel
theorem dX7_flows_33 : decode cX7_flows 33 = .ok (.imul, 1) := by decide +kernel
theorem dX7_flows_34 : decode cX7_flows 34 = .ok (.iload_n 3, 1) := by decide +kernel
theorem dX7_flows_35 : decode cX7_flows 35 = .ok (.iadd, 1) := by decide +kernel
theorem dX7_flows_36 : decode cX7_flows 36 = .ok (.iaload, 1) := by decide +kernel
theorem dX7_flows_37 : decode cX7_flows 37 = .ok (.istore 4, 2) := by decide +kernel
theorem dX7_flows_39 : decode cX7_flows 39 = .ok (.iload 4, 2) := by decide +kernel
theorem dX7_flows_41 : decode cX7_flows 41 = .ok (.iload_n 2, 1) := by decide +kernel
theorem dX7_flows_42 : decode cX7_flows 42 = .ok (.if_icmp .ge 8, 3) := by decide +kernel
theorem dX7_flows_45 : decode cX7_flows 45 = .ok (.iload 4, 2) := by decide +kernel
theorem dX7_flows_47 : decode cX7_flows 47 = .ok (.goto 4, 3) := by decide +kernel
theorem dX7_flows_50 : decode cX7_flows 50 = .ok (.iload_n 2, 1) := by decide +kernel
theorem dX7_flows_51 : decode cX7_flows 51 = .ok (.istore_n 2, 1) := by decide +kernel
theorem dX7_flows_52 : decode cX7_flows 52 = .ok (.aload_n 0, 1) := by decide +kernel
theorem dX7_flows_53 : decode cX7_flows 53 = .ok (.getfield 56, 3) := by decide +kernel
theorem dX7_flows_56 : decode cX7_flows 56 = .ok (.iload_n 3, 1) := by decide +kernel
theorem dX7_flows_57 : decode cX7_flows 57 = .ok (.iaload, 1) := by decide +kernel
theorem dX7_flows_58 : decode cX7_flows 58 = .ok (.istore_n 3, 1) := by decide +kernel
theorem dX7_flows_59 : decode cX7_flows 59 = .ok (.goto (-44), 3) := by decide +kernel
theorem dX7_flows_62 : decode cX7_flows 62 = .ok (.bipush 13, 2) := by decide +kernel
theorem dX7_flows_64 : decode cX7_flows 64 = .ok (.istore_n 3, 1) := by decide +kernel
theorem dX7_flows_65 : decode cX7_flows 65 = .ok (.iload_n 3, 1) := by decide +kernel
theorem dX7_flows_66 : decode cX7_flows 66 = .ok (.bipush 12, 2) := by decide +kernel
theorem dX7_flows_68 : decode cX7_flows 68 = .ok (.if_icmp .eq 53, 3) := by decide +kernel
theorem dX7_flows_71 : decode cX7_flows 71 = .ok (.aload_n 0, 1) := by decide +kernel
theorem dX7_flows_72 : decode cX7_flows 72 = .ok (.getfield 53, 3) := by decide +kernel
theorem dX7_flows_75 : decode cX7_flows 75 = .ok (.bipush 14, 2) := by decide +kernel
theorem dX7_flows_77 : decode cX7_flows 77 = .ok (.aload_n 0, 1) := by decide +kernel
theorem dX7_flows_78 : decode cX7_flows 78 = .ok (.getfield 56, 3) := by decide +kernel
theorem dX7_flows_81 : decode cX7_flows 81 = .ok (.iload_n 3, 1) := by decide +kernel
theorem dX7_flows_82 : decode cX7_flows 82 = .ok (.iaload, 1) := by decide +kernel
theorem dX7_flows_83 : decode cX7_flows 83 = .ok (.imul, 1) := by decide +kernel
theorem dX7_flows_84 : decode cX7_flows 84 = .ok (.iload_n 3, 1) := by decide +kernel
theorem dX7_flows_85 : decode cX7_flows 85 = .ok (.iadd, 1) := by decide +kernel
theorem dX7_flows_86 : decode cX7_flows 86 = .ok (.dup2, 1) := by decide +kernel
theorem dX7_flows_87 : decode cX7_flows 87 = .ok (.iaload, 1) := by decide +kernel
theorem dX7_flows_88 : decode cX7_flows 88 = .ok (.iload_n 2, 1) := by decide +kernel
theorem dX7_flows_89 : decode cX7_flows 89 = .ok (.isub, 1) := by decide +kernel
theorem dX7_flows_90 : decode cX7_flows 90 = .ok (.iastore, 1) := by decide +kernel
theorem dX7_flows_91 : decode cX7_flows 91 = .ok (.aload_n 0, 1) := by decide +kernel
theorem dX7_flows_92 : decode cX7_flows 92 = .ok (.getfield 53, 3) := by decide +kernel
theorem dX7_flows_95 : decode cX7_flows 95 = .ok (.bipush 14, 2) := by decide +kernel
theorem dX7_flows_97 : decode cX7_flows 97 = .ok (.iload_n 3, 1) := by decide +kernel
theorem dX7_flows_98 : decode cX7_flows 98 = .ok (.imul, 1) := by decide +kernel
theorem dX7_flows_99 : decode cX7_flows 99 = .ok (.aload_n 0, 1) := by decide +kernel
theorem dX7_flows_100 : decode cX7_flows 100 = .ok (.getfield 56, 3) := by decide +kernel
theorem dX7_flows_103 : decode cX7_flows 103 = .ok (.iload_n 3, 1) := by decide +kernel
theorem dX7_flows_104 : decode cX7_flows 104 = .ok (.iaload, 1) := by decide +kernel
theorem dX7_flows_105 : decode cX7_flows 105 = .ok (.iadd, 1) := by decide +kernel
theorem dX7_flows_106 : decode cX7_flows 106 = .ok (.dup2, 1) := by decide +kernel
theorem dX7_flows_107 : decode cX7_flows 107 = .ok (.iaload, 1) := by decide +kernel
theorem dX7_flows_108 : decode cX7_flows 108 = .ok (.iload_n 2, 1) := by decide +kernel
theorem dX7_flows_109 : decode cX7_flows 109 = .ok (.iadd, 1) := by decide +kernel
theorem dX7_flows_110 : decode cX7_flows 110 = .ok (.iastore, 1) := by decide +kernel
theorem dX7_flows_111 : decode cX7_flows 111 = .ok (.aload_n 0, 1) := by decide +kernel
theorem dX7_flows_112 : decode cX7_flows 112 = .ok (.getfield 56, 3) := by decide +kernel
theorem dX7_flows_115 : decode cX7_flows 115 = .ok (.iload_n 3, 1) := by decide +kernel
theorem dX7_flows_116 : decode cX7_flows 116 = .ok (.iaload, 1) := by decide +kernel
theorem dX7_flows_117 : decode cX7_flows 117 = .ok (.istore_n 3, 1) := by decide +kernel
theorem dX7_flows_118 : decode cX7_flows 118 = .ok (.goto (-53), 3) := by decide +kernel
theorem dX7_flows_121 : decode cX7_flows 121 = .ok (.iload_n 1, 1) := by decide +kernel
theorem dX7_flows_122 : decode cX7_flows 122 = .ok (.iload_n 2, 1) := by decide +kernel
theorem dX7_flows_123 : decode cX7_flows 123 = .ok (.iadd, 1) := by decide +kernel
theorem dX7_flows_124 : decode cX7_flows 124 = .ok (.istore_n 1, 1) := by decide +kernel
theorem dX7_flows_125 : decode cX7_flows 125 = .ok (.goto (-123), 3) := by decide +kernel
theorem dX7_flows_128 : decode cX7_flows 128 = .ok (.iload_n 1, 1) := by decide +kernel
theorem dX7_flows_129 : decode cX7_flows 129 = .ok (.ireturn, 1) := by decide +kernel
theorem dX7_trustOf_0 : decode cX7_trustOf 0 = .ok (.aload_n 0, 1) := by decide +kernel
theorem dX7_trustOf_1 : decode cX7_trustOf 1 = .ok (.invokevirtual 214, 3) := by decide +kernel
theorem dX7_trustOf_4 : decode cX7_trustOf 4 = .ok (.iconst 0, 1) := by decide +kernel
theorem dX7_trustOf_5 : decode cX7_trustOf 5 = .ok (.istore_n 2, 1) := by decide +kernel
theorem dX7_trustOf_6 : decode cX7_trustOf 6 = .ok (.iload_n 2, 1) := by decide +kernel
theorem dX7_trustOf_7 : decode cX7_trustOf 7 = .ok (.aload_n 0, 1) := by decide +kernel
theorem dX7_trustOf_8 : decode cX7_trustOf 8 = .ok (.getfield 98, 3) := by decide +kernel
theorem dX7_trustOf_11 : decode cX7_trustOf 11 = .ok (.if_icmp .ge 36, 3) := by decide +kernel
theorem dX7_trustOf_14 : decode cX7_trustOf 14 = .ok (.aload_n 0, 1) := by decide +kernel
theorem dX7_trustOf_15 : decode cX7_trustOf 15 = .ok (.getfield 53, 3) := by decide +kernel
theorem dX7_trustOf_18 : decode cX7_trustOf 18 = .ok (.bipush 14, 2) := by decide +kernel
theorem dX7_trustOf_20 : decode cX7_trustOf 20 = .ok (.iload_n 2, 1) := by decide +kernel
theorem dX7_trustOf_21 : decode cX7_trustOf 21 = .ok (.imul, 1) := by decide +kernel
theorem dX7_trustOf_22 : decode cX7_trustOf 22 = .ok (.bipush 13, 2) := by decide +kernel
theorem dX7_trustOf_24 : decode cX7_trustOf 24 = .ok (.iadd, 1) := by decide +kernel
theorem dX7_trustOf_25 : decode cX7_trustOf 25 = .ok (.iload_n 1, 1) := by decide +kernel
theorem dX7_trustOf_26 : decode cX7_trustOf 26 = .ok (.iload_n 2, 1) := by decide +kernel
theorem dX7_trustOf_27 : decode cX7_trustOf 27 = .ok (.ishr, 1) := by decide +kernel
theorem dX7_trustOf_28 : decode cX7_trustOf 28 = .ok (.iconst 1, 1) := by decide +kernel
theorem dX7_trustOf_29 : decode cX7_trustOf 29 = .ok (.iand, 1) := by decide +kernel
theorem dX7_trustOf_30 : decode cX7_trustOf 30 = .ok (.iconst 1, 1) := by decide +kernel
theorem dX7_trustOf_31 : decode cX7_trustOf 31 = .ok (.if_icmp .ne 8, 3) := by decide +kernel
theorem dX7_trustOf_34 : decode cX7_trustOf 34 = .ok (.ldc 213, 2) := by decide +kernel
theorem dX7_trustOf_36 : decode cX7_trustOf 36 = .ok (.goto 4, 3) := by decide +kernel
theorem dX7_trustOf_39 : decode cX7_trustOf 39 = .ok (.iconst 0, 1) := by decide +kernel
theorem dX7_trustOf_40 : decode cX7_trustOf 40 = .ok (.iastore, 1) := by decide +kernel
theorem dX7_trustOf_41 : decode cX7_trustOf 41 = .ok (.iinc 2 1, 3) := by decide +kernel
theorem dX7_trustOf_44 : decode cX7_trustOf 44 = .ok (.goto (-38), 3) := by decide +kernel
theorem dX7_trustOf_47 : decode cX7_trustOf 47 = .ok (.aload_n 0, 1) := by decide +kernel
theorem dX7_trustOf_48 : decode cX7_trustOf 48 = .ok (.invokevirtual 217, 3) := by decide +kernel
theorem dX7_trustOf_51 : decode cX7_trustOf 51 = .ok (.ireturn, 1) := by decide +kernel
theorem dX7_areNames_0 : decode cX7_areNames 0 = .ok (.iload_n 1, 1) := by decide +kernel
theorem dX7_areNames_1 : decode cX7_areNames 1 = .ok (.i2l, 1) := by decide +kernel
theorem dX7_areNames_2 : decode cX7_areNames 2 = .ok (.lconst 0, 1) := by decide +kernel
theorem dX7_areNames_3 : decode cX7_areNames 3 = .ok (.iconst 1, 1) := by decide +kernel
theorem dX7_areNames_4 : decode cX7_areNames 4 = .ok (.aload_n 0, 1) := by decide +kernel
theorem dX7_areNames_5 : decode cX7_areNames 5 = .ok (.getfield 98, 3) := by decide +kernel
theorem dX7_areNames_8 : decode cX7_areNames 8 = .ok (.ishl, 1) := by decide +kernel
theorem dX7_areNames_9 : decode cX7_areNames 9 = .ok (.iconst 1, 1) := by decide +kernel
theorem dX7_areNames_10 : decode cX7_areNames 10 = .ok (.isub, 1) := by decide +kernel
theorem dX7_areNames_11 : decode cX7_areNames 11 = .ok (.i2l, 1) := by decide +kernel
theorem dX7_areNames_12 : decode cX7_areNames 12 = .ok (.invokestatic 102, 3) := by decide +kernel
theorem dX7_areNames_15 : decode cX7_areNames 15 = .ok (.ireturn, 1) := by decide +kernel
theorem dX7_trust_0 : decode cX7_trust 0 = .ok (.aload_n 0, 1) := by decide +kernel
theorem dX7_trust_1 : decode cX7_trust 1 = .ok (.iload_n 1, 1) := by decide +kernel
theorem dX7_trust_2 : decode cX7_trust 2 = .ok (.invokevirtual 111, 3) := by decide +kernel
theorem dX7_trust_5 : decode cX7_trust 5 = .ok (.ifCond .eq 13, 3) := by decide +kernel
theorem dX7_trust_8 : decode cX7_trust 8 = .ok (.aload_n 0, 1) := by decide +kernel
theorem dX7_trust_9 : decode cX7_trust 9 = .ok (.iconst 1, 1) := by decide +kernel
theorem dX7_trust_10 : decode cX7_trust 10 = .ok (.iload_n 1, 1) := by decide +kernel
theorem dX7_trust_11 : decode cX7_trust 11 = .ok (.ishl, 1) := by decide +kernel
theorem dX7_trust_12 : decode cX7_trust 12 = .ok (.invokevirtual 220, 3) := by decide +kernel
theorem dX7_trust_15 : decode cX7_trust 15 = .ok (.goto 4, 3) := by decide +kernel
theorem dX7_trust_18 : decode cX7_trust 18 = .ok (.iconst (-1), 1) := by decide +kernel
theorem dX7_trust_19 : decode cX7_trust 19 = .ok (.ireturn, 1) := by decide +kernel
theorem dX7_heap_0 : decode cX7_heap 0 = .ok (.aload_n 0, 1) := by decide +kernel
theorem dX7_heap_1 : decode cX7_heap 1 = .ok (.iload_n 1, 1) := by decide +kernel
theorem dX7_heap_2 : decode cX7_heap 2 = .ok (.invokevirtual 223, 3) := by decide +kernel
theorem dX7_heap_5 : decode cX7_heap 5 = .ok (.ifCond .eq 11, 3) := by decide +kernel
theorem dX7_heap_8 : decode cX7_heap 8 = .ok (.aload_n 0, 1) := by decide +kernel
theorem dX7_heap_9 : decode cX7_heap 9 = .ok (.iload_n 1, 1) := by decide +kernel
theorem dX7_heap_10 : decode cX7_heap 10 = .ok (.invokevirtual 220, 3) := by decide +kernel
theorem dX7_heap_13 : decode cX7_heap 13 = .ok (.goto 4, 3) := by decide +kernel
theorem dX7_heap_16 : decode cX7_heap 16 = .ok (.iconst (-1), 1) := by decide +kernel
theorem dX7_heap_17 : decode cX7_heap 17 = .ok (.ireturn, 1) := by decide +kernel
theorem dX7_cut_0 : decode cX7_cut 0 = .ok (.aload_n 0, 1) := by decide +kernel
theorem dX7_cut_1 : decode cX7_cut 1 = .ok (.iload_n 1, 1) := by decide +kernel
theorem dX7_cut_2 : decode cX7_cut 2 = .ok (.invokevirtual 223, 3) := by decide +kernel
theorem dX7_cut_5 : decode cX7_cut 5 = .ok (.ifCond .eq 19, 3) := by decide +kernel
theorem dX7_cut_8 : decode cX7_cut 8 = .ok (.iload_n 1, 1) := by decide +kernel
theorem dX7_cut_9 : decode cX7_cut 9 = .ok (.ifCond .eq 15, 3) := by decide +kernel
theorem dX7_cut_12 : decode cX7_cut 12 = .ok (.iload_n 2, 1) := by decide +kernel
theorem dX7_cut_13 : decode cX7_cut 13 = .ok (.i2l, 1) := by decide +kernel
theorem dX7_cut_14 : decode cX7_cut 14 = .ok (.lconst 0, 1) := by decide +kernel
theorem dX7_cut_15 : decode cX7_cut 15 = .ok (.ldc2_w 226, 3) := by decide +kernel
theorem dX7_cut_18 : decode cX7_cut 18 = .ok (.invokestatic 102, 3) := by decide +kernel
theorem dX7_cut_21 : decode cX7_cut 21 = .ok (.ifCond .ne 5, 3) := by decide +kernel
theorem dX7_cut_24 : decode cX7_cut 24 = .ok (.iconst (-1), 1) := by decide +kernel
theorem dX7_cut_25 : decode cX7_cut 25 = .ok (.ireturn, 1) := by decide +kernel
theorem dX7_cut_26 : decode cX7_cut 26 = .ok (.aload_n 0, 1) := by decide +kernel
theorem dX7_cut_27 : decode cX7_cut 27 = .ok (.iload_n 1, 1) := by decide +kernel
theorem dX7_cut_28 : decode cX7_cut 28 = .ok (.invokevirtual 220, 3) := by decide +kernel
theorem dX7_cut_31 : decode cX7_cut 31 = .ok (.pop, 1) := by decide +kernel
theorem dX7_cut_32 : decode cX7_cut 32 = .ok (.iconst 0, 1) := by decide +kernel
theorem dX7_cut_33 : decode cX7_cut 33 = .ok (.istore_n 3, 1) := by decide +kernel
theorem dX7_cut_34 : decode cX7_cut 34 = .ok (.iconst 0, 1) := by decide +kernel
theorem dX7_cut_35 : decode cX7_cut 35 = .ok (.istore 4, 2) := by decide +kernel
theorem dX7_cut_37 : decode cX7_cut 37 = .ok (.iconst 0, 1) := by decide +kernel
theorem dX7_cut_38 : decode cX7_cut 38 = .ok (.istore 5, 2) := by decide +kernel
theorem dX7_cut_40 : decode cX7_cut 40 = .ok (.iload 5, 2) := by decide +kernel
theorem dX7_cut_42 : decode cX7_cut 42 = .ok (.aload_n 0, 1) := by decide +kernel
theorem dX7_cut_43 : decode cX7_cut 43 = .ok (.getfield 98, 3) := by decide +kernel
theorem dX7_cut_46 : decode cX7_cut 46 = .ok (.if_icmp .ge 59, 3) := by decide +kernel
theorem dX7_cut_49 : decode cX7_cut 49 = .ok (.iload_n 3, 1) := by decide +kernel
theorem dX7_cut_50 : decode cX7_cut 50 = .ok (.aload_n 0, 1) := by decide +kernel
theorem dX7_cut_51 : decode cX7_cut 51 = .ok (.getfield 56, 3) := by decide +kernel
theorem dX7_cut_54 : decode cX7_cut 54 = .ok (.iload 5, 2) := by decide +kernel
theorem dX7_cut_56 : decode cX7_cut 56 = .ok (.iaload, 1) := by decide +kernel
theorem dX7_cut_57 : decode cX7_cut 57 = .ok (.bipush (-4), 2) := by decide +kernel
theorem dX7_cut_59 : decode cX7_cut 59 = .ok (.if_icmp .eq 10, 3) := by decide +kernel
theorem dX7_cut_62 : decode cX7_cut 62 = .ok (.iconst 1, 1) := by decide +kernel
theorem dX7_cut_63 : decode cX7_cut 63 = .ok (.iload 5, 2) := by decide +kernel
theorem dX7_cut_65 : decode cX7_cut 65 = .ok (.ishl, 1) := by decide +kernel
theorem dX7_cut_66 : decode cX7_cut 66 = .ok (.goto 4, 3) := by decide +kernel
theorem dX7_cut_69 : decode cX7_cut 69 = .ok (.iconst 0, 1) := by decide +kernel
theorem dX7_cut_70 : decode cX7_cut 70 = .ok (.ior, 1) := by decide +kernel
theorem dX7_cut_71 : decode cX7_cut 71 = .ok (.istore_n 3, 1) := by decide +kernel
theorem dX7_cut_72 : decode cX7_cut 72 = .ok (.iload 4, 2) := by decide +kernel
theorem dX7_cut_74 : decode cX7_cut 74 = .ok (.aload_n 0, 1) := by decide +kernel
theorem dX7_cut_75 : decode cX7_cut 75 = .ok (.getfield 56, 3) := by decide +kernel
theorem dX7_cut_78 : decode cX7_cut 78 = .ok (.iload 5, 2) := by decide +kernel
theorem dX7_cut_80 : decode cX7_cut 80 = .ok (.iaload, 1) := by decide +kernel
theorem dX7_cut_81 : decode cX7_cut 81 = .ok (.bipush (-4), 2) := by decide +kernel
theorem dX7_cut_83 : decode cX7_cut 83 = .ok (.if_icmp .eq 7, 3) := by decide +kernel
theorem dX7_cut_86 : decode cX7_cut 86 = .ok (.iconst 0, 1) := by decide +kernel
theorem dX7_cut_87 : decode cX7_cut 87 = .ok (.goto 9, 3) := by decide +kernel
theorem dX7_cut_90 : decode cX7_cut 90 = .ok (.aload_n 0, 1) := by decide +kernel
theorem dX7_cut_91 : decode cX7_cut 91 = .ok (.iload 5, 2) := by decide +kernel
theorem dX7_cut_93 : decode cX7_cut 93 = .ok (.invokevirtual 141, 3) := by decide +kernel
theorem dX7_cut_96 : decode cX7_cut 96 = .ok (.iadd, 1) := by decide +kernel
theorem dX7_cut_97 : decode cX7_cut 97 = .ok (.istore 4, 2) := by decide +kernel
theorem dX7_cut_99 : decode cX7_cut 99 = .ok (.iinc 5 1, 3) := by decide +kernel
theorem dX7_cut_102 : decode cX7_cut 102 = .ok (.goto (-62), 3) := by decide +kernel
theorem dX7_cut_105 : decode cX7_cut 105 = .ok (.iconst 0, 1) := by decide +kernel
theorem dX7_cut_106 : decode cX7_cut 106 = .ok (.istore 5, 2) := by decide +kernel
theorem dX7_cut_108 : decode cX7_cut 108 = .ok (.iconst 0, 1) := by decide +kernel
theorem dX7_cut_109 : decode cX7_cut 109 = .ok (.istore 6, 2) := by decide +kernel
theorem dX7_cut_111 : decode cX7_cut 111 = .ok (.iload 6, 2) := by decide +kernel
theorem dX7_cut_113 : decode cX7_cut 113 = .ok (.aload_n 0, 1) := by decide +kernel
theorem dX7_cut_114 : decode cX7_cut 114 = .ok (.getfield 121, 3) := by decide +kernel
theorem dX7_cut_117 : decode cX7_cut 117 = .ok (.if_icmp .ge 68, 3) := by decide +kernel
theorem dX7_cut_120 : decode cX7_cut 120 = .ok (.iload_n 3, 1) := by decide +kernel
theorem dX7_cut_121 : decode cX7_cut 121 = .ok (.aload_n 0, 1) := by decide +kernel
theorem dX7_cut_122 : decode cX7_cut 122 = .ok (.getfield 26, 3) := by decide +kernel
theorem dX7_cut_125 : decode cX7_cut 125 = .ok (.iload 6, 2) := by decide +kernel
theorem dX7_cut_127 : decode cX7_cut 127 = .ok (.iaload, 1) := by decide +kernel
theorem dX7_cut_128 : decode cX7_cut 128 = .ok (.ishr, 1) := by decide +kernel
theorem dX7_cut_129 : decode cX7_cut 129 = .ok (.iconst 1, 1) := by decide +kernel
theorem dX7_cut_130 : decode cX7_cut 130 = .ok (.iand, 1) := by decide +kernel
theorem dX7_cut_131 : decode cX7_cut 131 = .ok (.iload_n 3, 1) := by decide +kernel
theorem dX7_cut_132 : decode cX7_cut 132 = .ok (.aload_n 0, 1) := by decide +kernel
theorem dX7_cut_133 : decode cX7_cut 133 = .ok (.getfield 29, 3) := by decide +kernel
theorem dX7_cut_136 : decode cX7_cut 136 = .ok (.iload 6, 2) := by decide +kernel
theorem dX7_cut_138 : decode cX7_cut 138 = .ok (.iaload, 1) := by decide +kernel
theorem dX7_cut_139 : decode cX7_cut 139 = .ok (.ishr, 1) := by decide +kernel
theorem dX7_cut_140 : decode cX7_cut 140 = .ok (.iconst 1, 1) := by decide +kernel
theorem dX7_cut_141 : decode cX7_cut 141 = .ok (.iand, 1) := by decide +kernel
theorem dX7_cut_142 : decode cX7_cut 142 = .ok (.if_icmp .eq 7, 3) := by decide +kernel
theorem dX7_cut_145 : decode cX7_cut 145 = .ok (.iconst 1, 1) := by decide +kernel
theorem dX7_cut_146 : decode cX7_cut 146 = .ok (.goto 4, 3) := by decide +kernel
theorem dX7_cut_149 : decode cX7_cut 149 = .ok (.iconst 0, 1) := by decide +kernel
theorem dX7_cut_150 : decode cX7_cut 150 = .ok (.istore 7, 2) := by decide +kernel
theorem dX7_cut_152 : decode cX7_cut 152 = .ok (.iload 5, 2) := by decide +kernel
theorem dX7_cut_154 : decode cX7_cut 154 = .ok (.iload 7, 2) := by decide +kernel
theorem dX7_cut_156 : decode cX7_cut 156 = .ok (.ifCond .eq 19, 3) := by decide +kernel
theorem dX7_cut_159 : decode cX7_cut 159 = .ok (.aload_n 0, 1) := by decide +kernel
theorem dX7_cut_160 : decode cX7_cut 160 = .ok (.iload 6, 2) := by decide +kernel
theorem dX7_cut_162 : decode cX7_cut 162 = .ok (.invokevirtual 136, 3) := by decide +kernel
theorem dX7_cut_165 : decode cX7_cut 165 = .ok (.ifCond .le 10, 3) := by decide +kernel
theorem dX7_cut_168 : decode cX7_cut 168 = .ok (.iconst 1, 1) := by decide +kernel
theorem dX7_cut_169 : decode cX7_cut 169 = .ok (.iload 6, 2) := by decide +kernel
theorem dX7_cut_171 : decode cX7_cut 171 = .ok (.ishl, 1) := by decide +kernel
theorem dX7_cut_172 : decode cX7_cut 172 = .ok (.goto 4, 3) := by decide +kernel
theorem dX7_cut_175 : decode cX7_cut 175 = .ok (.iconst 0, 1) := by decide +kernel
theorem dX7_cut_176 : decode cX7_cut 176 = .ok (.ior, 1) := by decide +kernel
theorem dX7_cut_177 : decode cX7_cut 177 = .ok (.istore 5, 2) := by decide +kernel
theorem dX7_cut_179 : decode cX7_cut 179 = .ok (.iinc 6 1, 3) := by decide +kernel
theorem dX7_cut_182 : decode cX7_cut 182 = .ok (.goto (-71), 3) := by decide +kernel
theorem dX7_cut_185 : decode cX7_cut 185 = .ok (.iload_n 2, 1) := by decide +kernel
theorem dX7_cut_186 : decode cX7_cut 186 = .ok (.ifCond .ne 7, 3) := by decide +kernel
theorem dX7_cut_189 : decode cX7_cut 189 = .ok (.iload_n 3, 1) := by decide +kernel
theorem dX7_cut_190 : decode cX7_cut 190 = .ok (.goto 15, 3) := by decide +kernel
theorem dX7_cut_193 : decode cX7_cut 193 = .ok (.iload_n 2, 1) := by decide +kernel
theorem dX7_cut_194 : decode cX7_cut 194 = .ok (.iconst 1, 1) := by decide +kernel
theorem dX7_cut_195 : decode cX7_cut 195 = .ok (.if_icmp .ne 8, 3) := by decide +kernel
theorem dX7_cut_198 : decode cX7_cut 198 = .ok (.iload 5, 2) := by decide +kernel
theorem dX7_cut_200 : decode cX7_cut 200 = .ok (.goto 5, 3) := by decide +kernel
theorem dX7_cut_203 : decode cX7_cut 203 = .ok (.iload 4, 2) := by decide +kernel
theorem dX7_cut_205 : decode cX7_cut 205 = .ok (.ireturn, 1) := by decide +kernel
theorem dX7_isPlain_0 : decode cX7_isPlain 0 = .ok (.aload_n 0, 1) := by decide +kernel
theorem dX7_isPlain_1 : decode cX7_isPlain 1 = .ok (.getfield 13, 3) := by decide +kernel
theorem dX7_isPlain_4 : decode cX7_isPlain 4 = .ok (.iload_n 1, 1) := by decide +kernel
theorem dX7_isPlain_5 : decode cX7_isPlain 5 = .ok (.baload, 1) := by decide +kernel
theorem dX7_isPlain_6 : decode cX7_isPlain 6 = .ok (.ifCond .ne 16, 3) := by decide +kernel
theorem dX7_isPlain_9 : decode cX7_isPlain 9 = .ok (.aload_n 0, 1) := by decide +kernel
theorem dX7_isPlain_10 : decode cX7_isPlain 10 = .ok (.getfield 17, 3) := by decide +kernel
theorem dX7_isPlain_13 : decode cX7_isPlain 13 = .ok (.iload_n 1, 1) := by decide +kernel
theorem dX7_isPlain_14 : decode cX7_isPlain 14 = .ok (.baload, 1) := by decide +kernel
theorem dX7_isPlain_15 : decode cX7_isPlain 15 = .ok (.ifCond .ne 7, 3) := by decide +kernel
theorem dX7_isPlain_18 : decode cX7_isPlain 18 = .ok (.iconst 1, 1) := by decide +kernel
theorem dX7_isPlain_19 : decode cX7_isPlain 19 = .ok (.goto 4, 3) := by decide +kernel
theorem dX7_isPlain_22 : decode cX7_isPlain 22 = .ok (.iconst 0, 1) := by decide +kernel
theorem dX7_isPlain_23 : decode cX7_isPlain 23 = .ok (.ireturn, 1) := by decide +kernel
theorem dX7_low_0 : decode cX7_low 0 = .ok (.iload_n 1, 1) := by decide +kernel
theorem dX7_low_1 : decode cX7_low 1 = .ok (.i2l, 1) := by decide +kernel
theorem dX7_low_2 : decode cX7_low 2 = .ok (.lconst 0, 1) := by decide +kernel
theorem dX7_low_3 : decode cX7_low 3 = .ok (.lconst 1, 1) := by decide +kernel
theorem dX7_low_4 : decode cX7_low 4 = .ok (.invokestatic 102, 3) := by decide +kernel
theorem dX7_low_7 : decode cX7_low 7 = .ok (.ifCond .ne 5, 3) := by decide +kernel
theorem dX7_low_10 : decode cX7_low 10 = .ok (.iconst (-1), 1) := by decide +kernel
theorem dX7_low_11 : decode cX7_low 11 = .ok (.ireturn, 1) := by decide +kernel
theorem dX7_low_12 : decode cX7_low 12 = .ok (.bipush (-4), 2) := by decide +kernel
theorem dX7_low_14 : decode cX7_low 14 = .ok (.istore_n 2, 1) := by decide +kernel
theorem dX7_low_15 : decode cX7_low 15 = .ok (.bipush (-4), 2) := by decide +kernel
theorem dX7_low_17 : decode cX7_low 17 = .ok (.istore_n 3, 1) := by decide +kernel
theorem dX7_low_18 : decode cX7_low 18 = .ok (.iconst 0, 1) := by decide +kernel
theorem dX7_low_19 : decode cX7_low 19 = .ok (.istore 4, 2) := by decide +kernel
theorem dX7_low_21 : decode cX7_low 21 = .ok (.iload 4, 2) := by decide +kernel
theorem dX7_low_23 : decode cX7_low 23 = .ok (.aload_n 0, 1) := by decide +kernel
theorem dX7_low_24 : decode cX7_low 24 = .ok (.getfield 98, 3) := by decide +kernel
theorem dX7_low_27 : decode cX7_low 27 = .ok (.if_icmp .ge 71, 3) := by decide +kernel
theorem dX7_low_30 : decode cX7_low 30 = .ok (.aload_n 0, 1) := by decide +kernel
theorem dX7_low_31 : decode cX7_low 31 = .ok (.iload 4, 2) := by decide +kernel
theorem dX7_low_33 : decode cX7_low 33 = .ok (.invokevirtual 228, 3) := by decide +kernel
theorem dX7_low_36 : decode cX7_low 36 = .ok (.ifCond .eq 56, 3) := by decide +kernel
theorem dX7_low_39 : decode cX7_low 39 = .ok (.aload_n 0, 1) := by decide +kernel
theorem dX7_low_40 : decode cX7_low 40 = .ok (.iconst 1, 1) := by decide +kernel
theorem dX7_low_41 : decode cX7_low 41 = .ok (.iload 4, 2) := by decide +kernel
theorem dX7_low_43 : decode cX7_low 43 = .ok (.ishl, 1) := by decide +kernel
theorem dX7_low_44 : decode cX7_low 44 = .ok (.invokevirtual 220, 3) := by decide +kernel
theorem dX7_low_47 : decode cX7_low 47 = .ok (.istore 5, 2) := by decide +kernel
theorem dX7_low_49 : decode cX7_low 49 = .ok (.iload_n 2, 1) := by decide +kernel
theorem dX7_low_50 : decode cX7_low 50 = .ok (.bipush (-4), 2) := by decide +kernel
theorem dX7_low_52 : decode cX7_low 52 = .ok (.if_icmp .eq 9, 3) := by decide +kernel
theorem dX7_low_55 : decode cX7_low 55 = .ok (.iload 5, 2) := by decide +kernel
theorem dX7_low_57 : decode cX7_low 57 = .ok (.iload_n 3, 1) := by decide +kernel
theorem dX7_low_58 : decode cX7_low 58 = .ok (.if_icmp .ge 7, 3) := by decide +kernel
theorem dX7_low_61 : decode cX7_low 61 = .ok (.iconst 1, 1) := by decide +kernel
theorem dX7_low_62 : decode cX7_low 62 = .ok (.goto 4, 3) := by decide +kernel
theorem dX7_low_65 : decode cX7_low 65 = .ok (.iconst 0, 1) := by decide +kernel
theorem dX7_low_66 : decode cX7_low 66 = .ok (.istore 6, 2) := by decide +kernel
theorem dX7_low_68 : decode cX7_low 68 = .ok (.iload 6, 2) := by decide +kernel
theorem dX7_low_70 : decode cX7_low 70 = .ok (.ifCond .eq 8, 3) := by decide +kernel
theorem dX7_low_73 : decode cX7_low 73 = .ok (.iload 4, 2) := by decide +kernel
theorem dX7_low_75 : decode cX7_low 75 = .ok (.goto 4, 3) := by decide +kernel
theorem dX7_low_78 : decode cX7_low 78 = .ok (.iload_n 2, 1) := by decide +kernel
theorem dX7_low_79 : decode cX7_low 79 = .ok (.istore_n 2, 1) := by decide +kernel
theorem dX7_low_80 : decode cX7_low 80 = .ok (.iload 6, 2) := by decide +kernel
theorem dX7_low_82 : decode cX7_low 82 = .ok (.ifCond .eq 8, 3) := by decide +kernel
theorem dX7_low_85 : decode cX7_low 85 = .ok (.iload 5, 2) := by decide +kernel
theorem dX7_low_87 : decode cX7_low 87 = .ok (.goto 4, 3) := by decide +kernel
theorem dX7_low_90 : decode cX7_low 90 = .ok (.iload_n 3, 1) := by decide +kernel
theorem dX7_low_91 : decode cX7_low 91 = .ok (.istore_n 3, 1) := by decide +kernel
theorem dX7_low_92 : decode cX7_low 92 = .ok (.iinc 4 1, 3) := by decide +kernel
theorem dX7_low_95 : decode cX7_low 95 = .ok (.goto (-74), 3) := by decide +kernel
theorem dX7_low_98 : decode cX7_low 98 = .ok (.iload_n 1, 1) := by decide +kernel
theorem dX7_low_99 : decode cX7_low 99 = .ok (.ifCond .ne 7, 3) := by decide +kernel
theorem dX7_low_102 : decode cX7_low 102 = .ok (.iload_n 2, 1) := by decide +kernel
theorem dX7_low_103 : decode cX7_low 103 = .ok (.goto 4, 3) := by decide +kernel
theorem dX7_low_106 : decode cX7_low 106 = .ok (.iload_n 3, 1) := by decide +kernel
theorem dX7_low_107 : decode cX7_low 107 = .ok (.ireturn, 1) := by decide +kernel
theorem dX7_twins_0 : decode cX7_twins 0 = .ok (.iload_n 1, 1) := by decide +kernel
theorem dX7_twins_1 : decode cX7_twins 1 = .ok (.i2l, 1) := by decide +kernel
theorem dX7_twins_2 : decode cX7_twins 2 = .ok (.lconst 0, 1) := by decide +kernel
theorem dX7_twins_3 : decode cX7_twins 3 = .ok (.lconst 1, 1) := by decide +kernel
theorem dX7_twins_4 : decode cX7_twins 4 = .ok (.invokestatic 102, 3) := by decide +kernel
theorem dX7_twins_7 : decode cX7_twins 7 = .ok (.ifCond .ne 5, 3) := by decide +kernel
theorem dX7_twins_10 : decode cX7_twins 10 = .ok (.iconst (-1), 1) := by decide +kernel
theorem dX7_twins_11 : decode cX7_twins 11 = .ok (.ireturn, 1) := by decide +kernel
theorem dX7_twins_12 : decode cX7_twins 12 = .ok (.bipush (-4), 2) := by decide +kernel
theorem dX7_twins_14 : decode cX7_twins 14 = .ok (.istore_n 2, 1) := by decide +kernel
theorem dX7_twins_15 : decode cX7_twins 15 = .ok (.iconst 0, 1) := by decide +kernel
theorem dX7_twins_16 : decode cX7_twins 16 = .ok (.istore_n 3, 1) := by decide +kernel
theorem dX7_twins_17 : decode cX7_twins 17 = .ok (.iconst 0, 1) := by decide +kernel
theorem dX7_twins_18 : decode cX7_twins 18 = .ok (.istore 4, 2) := by decide +kernel
theorem dX7_twins_20 : decode cX7_twins 20 = .ok (.iload 4, 2) := by decide +kernel
theorem dX7_twins_22 : decode cX7_twins 22 = .ok (.aload_n 0, 1) := by decide +kernel
theorem dX7_twins_23 : decode cX7_twins 23 = .ok (.getfield 98, 3) := by decide +kernel
theorem dX7_twins_26 : decode cX7_twins 26 = .ok (.if_icmp .ge 113, 3) := by decide +kernel
theorem dX7_twins_29 : decode cX7_twins 29 = .ok (.iload 4, 2) := by decide +kernel
theorem dX7_twins_31 : decode cX7_twins 31 = .ok (.iconst 1, 1) := by decide +kernel
theorem dX7_twins_32 : decode cX7_twins 32 = .ok (.iadd, 1) := by decide +kernel
theorem dX7_twins_33 : decode cX7_twins 33 = .ok (.istore 5, 2) := by decide +kernel
theorem dX7_twins_35 : decode cX7_twins 35 = .ok (.iload 5, 2) := by decide +kernel
theorem dX7_twins_37 : decode cX7_twins 37 = .ok (.aload_n 0, 1) := by decide +kernel
theorem dX7_twins_38 : decode cX7_twins 38 = .ok (.getfield 98, 3) := by decide +kernel
theorem dX7_twins_41 : decode cX7_twins 41 = .ok (.if_icmp .ge 92, 3) := by decide +kernel
theorem dX7_twins_44 : decode cX7_twins 44 = .ok (.aload_n 0, 1) := by decide +kernel
theorem dX7_twins_45 : decode cX7_twins 45 = .ok (.iload 4, 2) := by decide +kernel
theorem dX7_twins_47 : decode cX7_twins 47 = .ok (.invokevirtual 228, 3) := by decide +kernel
theorem dX7_twins_50 : decode cX7_twins 50 = .ok (.ifCond .eq 77, 3) := by decide +kernel
theorem dX7_twins_53 : decode cX7_twins 53 = .ok (.aload_n 0, 1) := by decide +kernel
theorem dX7_twins_54 : decode cX7_twins 54 = .ok (.iload 5, 2) := by decide +kernel
theorem dX7_twins_56 : decode cX7_twins 56 = .ok (.invokevirtual 228, 3) := by decide +kernel
theorem dX7_twins_59 : decode cX7_twins 59 = .ok (.ifCond .eq 68, 3) := by decide +kernel
theorem dX7_twins_62 : decode cX7_twins 62 = .ok (.aload_n 0, 1) := by decide +kernel
theorem dX7_twins_63 : decode cX7_twins 63 = .ok (.iconst 1, 1) := by decide +kernel
theorem dX7_twins_64 : decode cX7_twins 64 = .ok (.iload 4, 2) := by decide +kernel
theorem dX7_twins_66 : decode cX7_twins 66 = .ok (.ishl, 1) := by decide +kernel
theorem dX7_twins_67 : decode cX7_twins 67 = .ok (.invokevirtual 220, 3) := by decide +kernel
theorem dX7_twins_70 : decode cX7_twins 70 = .ok (.aload_n 0, 1) := by decide +kernel
theorem dX7_twins_71 : decode cX7_twins 71 = .ok (.iconst 1, 1) := by decide +kernel
theorem dX7_twins_72 : decode cX7_twins 72 = .ok (.iload 5, 2) := by decide +kernel
theorem dX7_twins_74 : decode cX7_twins 74 = .ok (.ishl, 1) := by decide +kernel
theorem dX7_twins_75 : decode cX7_twins 75 = .ok (.invokevirtual 220, 3) := by decide +kernel
theorem dX7_twins_78 : decode cX7_twins 78 = .ok (.iadd, 1) := by decide +kernel
theorem dX7_twins_79 : decode cX7_twins 79 = .ok (.aload_n 0, 1) := by decide +kernel
theorem dX7_twins_80 : decode cX7_twins 80 = .ok (.iconst 1, 1) := by decide +kernel
theorem dX7_twins_81 : decode cX7_twins 81 = .ok (.iload 4, 2) := by decide +kernel
theorem dX7_twins_83 : decode cX7_twins 83 = .ok (.ishl, 1) := by decide +kernel
theorem dX7_twins_84 : decode cX7_twins 84 = .ok (.iconst 1, 1) := by decide +kernel
theorem dX7_twins_85 : decode cX7_twins 85 = .ok (.iload 5, 2) := by decide +kernel
theorem dX7_twins_87 : decode cX7_twins 87 = .ok (.ishl, 1) := by decide +kernel
theorem dX7_twins_88 : decode cX7_twins 88 = .ok (.ior, 1) := by decide +kernel
theorem dX7_twins_89 : decode cX7_twins 89 = .ok (.invokevirtual 220, 3) := by decide +kernel
theorem dX7_twins_92 : decode cX7_twins 92 = .ok (.isub, 1) := by decide +kernel
theorem dX7_twins_93 : decode cX7_twins 93 = .ok (.istore 6, 2) := by decide +kernel
theorem dX7_twins_95 : decode cX7_twins 95 = .ok (.iload 6, 2) := by decide +kernel
theorem dX7_twins_97 : decode cX7_twins 97 = .ok (.iload_n 3, 1) := by decide +kernel
theorem dX7_twins_98 : decode cX7_twins 98 = .ok (.if_icmp .le 14, 3) := by decide +kernel
theorem dX7_twins_101 : decode cX7_twins 101 = .ok (.bipush 16, 2) := by decide +kernel
theorem dX7_twins_103 : decode cX7_twins 103 = .ok (.iload 4, 2) := by decide +kernel
theorem dX7_twins_105 : decode cX7_twins 105 = .ok (.imul, 1) := by decide +kernel
theorem dX7_twins_106 : decode cX7_twins 106 = .ok (.iload 5, 2) := by decide +kernel
theorem dX7_twins_108 : decode cX7_twins 108 = .ok (.iadd, 1) := by decide +kernel
theorem dX7_twins_109 : decode cX7_twins 109 = .ok (.goto 4, 3) := by decide +kernel
theorem dX7_twins_112 : decode cX7_twins 112 = .ok (.iload_n 2, 1) := by decide +kernel
theorem dX7_twins_113 : decode cX7_twins 113 = .ok (.istore_n 2, 1) := by decide +kernel
theorem dX7_twins_114 : decode cX7_twins 114 = .ok (.iload 6, 2) := by decide +kernel
theorem dX7_twins_116 : decode cX7_twins 116 = .ok (.iload_n 3, 1) := by decide +kernel
theorem dX7_twins_117 : decode cX7_twins 117 = .ok (.if_icmp .le 8, 3) := by decide +kernel
theorem dX7_twins_120 : decode cX7_twins 120 = .ok (.iload 6, 2) := by decide +kernel
theorem dX7_twins_122 : decode cX7_twins 122 = .ok (.goto 4, 3) := by decide +kernel
theorem dX7_twins_125 : decode cX7_twins 125 = .ok (.iload_n 3, 1) := by decide +kernel
theorem dX7_twins_126 : decode cX7_twins 126 = .ok (.istore_n 3, 1) := by decide +kernel
theorem dX7_twins_127 : decode cX7_twins 127 = .ok (.iinc 5 1, 3) := by decide +kernel
theorem dX7_twins_130 : decode cX7_twins 130 = .ok (.goto (-95), 3) := by decide +kernel
theorem dX7_twins_133 : decode cX7_twins 133 = .ok (.iinc 4 1, 3) := by decide +kernel
theorem dX7_twins_136 : decode cX7_twins 136 = .ok (.goto (-116), 3) := by decide +kernel
theorem dX7_twins_139 : decode cX7_twins 139 = .ok (.iload_n 2, 1) := by decide +kernel
theorem dX7_twins_140 : decode cX7_twins 140 = .ok (.bipush (-4), 2) := by decide +kernel
theorem dX7_twins_142 : decode cX7_twins 142 = .ok (.if_icmp .ne 8, 3) := by decide +kernel
theorem dX7_twins_145 : decode cX7_twins 145 = .ok (.bipush (-4), 2) := by decide +kernel
theorem dX7_twins_147 : decode cX7_twins 147 = .ok (.goto 12, 3) := by decide +kernel
theorem dX7_twins_150 : decode cX7_twins 150 = .ok (.iload_n 1, 1) := by decide +kernel
theorem dX7_twins_151 : decode cX7_twins 151 = .ok (.ifCond .ne 7, 3) := by decide +kernel
theorem dX7_twins_154 : decode cX7_twins 154 = .ok (.iload_n 2, 1) := by decide +kernel
theorem dX7_twins_155 : decode cX7_twins 155 = .ok (.goto 4, 3) := by decide +kernel
theorem dX7_twins_158 : decode cX7_twins 158 = .ok (.iload_n 3, 1) := by decide +kernel
theorem dX7_twins_159 : decode cX7_twins 159 = .ok (.ireturn, 1) := by decide +kernel
theorem dX7_isWord_0 : decode cX7_isWord 0 = .ok (.aload_n 0, 1) := by decide +kernel
theorem dX7_isWord_1 : decode cX7_isWord 1 = .ok (.iload_n 1, 1) := by decide +kernel
theorem dX7_isWord_2 : decode cX7_isWord 2 = .ok (.invokevirtual 111, 3) := by decide +kernel
theorem dX7_isWord_5 : decode cX7_isWord 5 = .ok (.ifCond .eq 45, 3) := by decide +kernel
theorem dX7_isWord_8 : decode cX7_isWord 8 = .ok (.aload_n 0, 1) := by decide +kernel
theorem dX7_isWord_9 : decode cX7_isWord 9 = .ok (.iload_n 2, 1) := by decide +kernel
theorem dX7_isWord_10 : decode cX7_isWord 10 = .ok (.invokevirtual 111, 3) := by decide +kernel
theorem dX7_isWord_13 : decode cX7_isWord 13 = .ok (.ifCond .eq 37, 3) := by decide +kernel
theorem dX7_isWord_16 : decode cX7_isWord 16 = .ok (.iload_n 1, 1) := by decide +kernel
theorem dX7_isWord_17 : decode cX7_isWord 17 = .ok (.iload_n 2, 1) := by decide +kernel
theorem dX7_isWord_18 : decode cX7_isWord 18 = .ok (.if_icmp .eq 32, 3) := by decide +kernel
theorem dX7_isWord_21 : decode cX7_isWord 21 = .ok (.iload_n 3, 1) := by decide +kernel
theorem dX7_isWord_22 : decode cX7_isWord 22 = .ok (.i2l, 1) := by decide +kernel
theorem dX7_isWord_23 : decode cX7_isWord 23 = .ok (.lconst 0, 1) := by decide +kernel
theorem dX7_isWord_24 : decode cX7_isWord 24 = .ok (.ldc2_w 231, 3) := by decide +kernel
theorem dX7_isWord_27 : decode cX7_isWord 27 = .ok (.invokestatic 102, 3) := by decide +kernel
theorem dX7_isWord_30 : decode cX7_isWord 30 = .ok (.ifCond .eq 20, 3) := by decide +kernel
theorem dX7_isWord_33 : decode cX7_isWord 33 = .ok (.iload 4, 2) := by decide +kernel
theorem dX7_isWord_35 : decode cX7_isWord 35 = .ok (.i2l, 1) := by decide +kernel
theorem dX7_isWord_36 : decode cX7_isWord 36 = .ok (.lconst 0, 1) := by decide +kernel
theorem dX7_isWord_37 : decode cX7_isWord 37 = .ok (.ldc2_w 233, 3) := by decide +kernel
theorem dX7_isWord_40 : decode cX7_isWord 40 = .ok (.invokestatic 102, 3) := by decide +kernel
theorem dX7_isWord_43 : decode cX7_isWord 43 = .ok (.ifCond .eq 7, 3) := by decide +kernel
theorem dX7_isWord_46 : decode cX7_isWord 46 = .ok (.iconst 1, 1) := by decide +kernel
theorem dX7_isWord_47 : decode cX7_isWord 47 = .ok (.goto 4, 3) := by decide +kernel
theorem dX7_isWord_50 : decode cX7_isWord 50 = .ok (.iconst 0, 1) := by decide +kernel
theorem dX7_isWord_51 : decode cX7_isWord 51 = .ok (.ireturn, 1) := by decide +kernel
theorem dX7_says_0 : decode cX7_says 0 = .ok (.aload_n 0, 1) := by decide +kernel
theorem dX7_says_1 : decode cX7_says 1 = .ok (.getfield 62, 3) := by decide +kernel
theorem dX7_says_4 : decode cX7_says 4 = .ok (.aload_n 0, 1) := by decide +kernel
theorem dX7_says_5 : decode cX7_says 5 = .ok (.getfield 235, 3) := by decide +kernel
theorem dX7_says_8 : decode cX7_says 8 = .ok (.iload_n 1, 1) := by decide +kernel
theorem dX7_says_9 : decode cX7_says 9 = .ok (.iastore, 1) := by decide +kernel
theorem dX7_says_10 : decode cX7_says 10 = .ok (.aload_n 0, 1) := by decide +kernel
theorem dX7_says_11 : decode cX7_says 11 = .ok (.getfield 65, 3) := by decide +kernel
theorem dX7_says_14 : decode cX7_says 14 = .ok (.aload_n 0, 1) := by decide +kernel
theorem dX7_says_15 : decode cX7_says 15 = .ok (.getfield 235, 3) := by decide +kernel
theorem dX7_says_18 : decode cX7_says 18 = .ok (.iload_n 2, 1) := by decide +kernel
theorem dX7_says_19 : decode cX7_says 19 = .ok (.iastore, 1) := by decide +kernel
theorem dX7_says_20 : decode cX7_says 20 = .ok (.aload_n 0, 1) := by decide +kernel
theorem dX7_says_21 : decode cX7_says 21 = .ok (.getfield 68, 3) := by decide +kernel
theorem dX7_says_24 : decode cX7_says 24 = .ok (.aload_n 0, 1) := by decide +kernel
theorem dX7_says_25 : decode cX7_says 25 = .ok (.getfield 235, 3) := by decide +kernel
theorem dX7_says_28 : decode cX7_says 28 = .ok (.iload_n 3, 1) := by decide +kernel
theorem dX7_says_29 : decode cX7_says 29 = .ok (.iastore, 1) := by decide +kernel
theorem dX7_says_30 : decode cX7_says 30 = .ok (.aload_n 0, 1) := by decide +kernel
theorem dX7_says_31 : decode cX7_says 31 = .ok (.getfield 71, 3) := by decide +kernel
theorem dX7_says_34 : decode cX7_says 34 = .ok (.aload_n 0, 1) := by decide +kernel
theorem dX7_says_35 : decode cX7_says 35 = .ok (.getfield 235, 3) := by decide +kernel
theorem dX7_says_38 : decode cX7_says 38 = .ok (.iload 4, 2) := by decide +kernel
theorem dX7_says_40 : decode cX7_says 40 = .ok (.iastore, 1) := by decide +kernel
theorem dX7_says_41 : decode cX7_says 41 = .ok (.aload_n 0, 1) := by decide +kernel
theorem dX7_says_42 : decode cX7_says 42 = .ok (.getfield 74, 3) := by decide +kernel
theorem dX7_says_45 : decode cX7_says 45 = .ok (.aload_n 0, 1) := by decide +kernel
theorem dX7_says_46 : decode cX7_says 46 = .ok (.getfield 235, 3) := by decide +kernel
theorem dX7_says_49 : decode cX7_says 49 = .ok (.aload_n 0, 1) := by decide +kernel
theorem dX7_says_50 : decode cX7_says 50 = .ok (.getfield 106, 3) := by decide +kernel
theorem dX7_says_53 : decode cX7_says 53 = .ok (.iastore, 1) := by decide +kernel
theorem dX7_says_54 : decode cX7_says 54 = .ok (.aload_n 0, 1) := by decide +kernel
theorem dX7_says_55 : decode cX7_says 55 = .ok (.dup, 1) := by decide +kernel
theorem dX7_says_56 : decode cX7_says 56 = .ok (.getfield 235, 3) := by decide +kernel
theorem dX7_says_59 : decode cX7_says 59 = .ok (.iconst 1, 1) := by decide +kernel
theorem dX7_says_60 : decode cX7_says 60 = .ok (.iadd, 1) := by decide +kernel
theorem dX7_says_61 : decode cX7_says 61 = .ok (.putfield 235, 3) := by decide +kernel
theorem dX7_says_64 : decode cX7_says 64 = .ok (.return_, 1) := by decide +kernel
theorem dX7_word_0 : decode cX7_word 0 = .ok (.aload_n 0, 1) := by decide +kernel
theorem dX7_word_1 : decode cX7_word 1 = .ok (.iload_n 1, 1) := by decide +kernel
theorem dX7_word_2 : decode cX7_word 2 = .ok (.iload_n 2, 1) := by decide +kernel
theorem dX7_word_3 : decode cX7_word 3 = .ok (.iload_n 3, 1) := by decide +kernel
theorem dX7_word_4 : decode cX7_word 4 = .ok (.iload 4, 2) := by decide +kernel
theorem dX7_word_6 : decode cX7_word 6 = .ok (.invokevirtual 238, 3) := by decide +kernel
theorem dX7_word_9 : decode cX7_word 9 = .ok (.ifCond .ne 5, 3) := by decide +kernel
theorem dX7_word_12 : decode cX7_word 12 = .ok (.iconst (-1), 1) := by decide +kernel
theorem dX7_word_13 : decode cX7_word 13 = .ok (.ireturn, 1) := by decide +kernel
theorem dX7_word_14 : decode cX7_word 14 = .ok (.aload_n 0, 1) := by decide +kernel
theorem dX7_word_15 : decode cX7_word 15 = .ok (.getfield 235, 3) := by decide +kernel
theorem dX7_word_18 : decode cX7_word 18 = .ok (.bipush 24, 2) := by decide +kernel
theorem dX7_word_20 : decode cX7_word 20 = .ok (.if_icmp .ne 6, 3) := by decide +kernel
theorem dX7_word_23 : decode cX7_word 23 = .ok (.bipush (-3), 2) := by decide +kernel
theorem dX7_word_25 : decode cX7_word 25 = .ok (.ireturn, 1) := by decide +kernel
theorem dX7_word_26 : decode cX7_word 26 = .ok (.aload_n 0, 1) := by decide +kernel
theorem dX7_word_27 : decode cX7_word 27 = .ok (.getfield 17, 3) := by decide +kernel
theorem dX7_word_30 : decode cX7_word 30 = .ok (.iload_n 1, 1) := by decide +kernel
theorem dX7_word_31 : decode cX7_word 31 = .ok (.baload, 1) := by decide +kernel
theorem dX7_word_32 : decode cX7_word 32 = .ok (.ifCond .eq 6, 3) := by decide +kernel
theorem dX7_word_35 : decode cX7_word 35 = .ok (.bipush (-2), 2) := by decide +kernel
theorem dX7_word_37 : decode cX7_word 37 = .ok (.ireturn, 1) := by decide +kernel
theorem dX7_word_38 : decode cX7_word 38 = .ok (.aload_n 0, 1) := by decide +kernel
theorem dX7_word_39 : decode cX7_word 39 = .ok (.iload_n 1, 1) := by decide +kernel
theorem dX7_word_40 : decode cX7_word 40 = .ok (.iload_n 2, 1) := by decide +kernel
theorem dX7_word_41 : decode cX7_word 41 = .ok (.iload_n 3, 1) := by decide +kernel
theorem dX7_word_42 : decode cX7_word 42 = .ok (.iload 4, 2) := by decide +kernel
theorem dX7_word_44 : decode cX7_word 44 = .ok (.invokevirtual 242, 3) := by decide +kernel
theorem dX7_word_47 : decode cX7_word 47 = .ok (.aload_n 0, 1) := by decide +kernel
theorem dX7_word_48 : decode cX7_word 48 = .ok (.getfield 235, 3) := by decide +kernel
theorem dX7_word_51 : decode cX7_word 51 = .ok (.iconst 1, 1) := by decide +kernel
theorem dX7_word_52 : decode cX7_word 52 = .ok (.isub, 1) := by decide +kernel
theorem dX7_word_53 : decode cX7_word 53 = .ok (.ireturn, 1) := by decide +kernel
theorem dX7_isFirst_0 : decode cX7_isFirst 0 = .ok (.iconst 1, 1) := by decide +kernel
theorem dX7_isFirst_1 : decode cX7_isFirst 1 = .ok (.istore_n 2, 1) := by decide +kernel
theorem dX7_isFirst_2 : decode cX7_isFirst 2 = .ok (.iconst 0, 1) := by decide +kernel
theorem dX7_isFirst_3 : decode cX7_isFirst 3 = .ok (.istore_n 3, 1) := by decide +kernel
theorem dX7_isFirst_4 : decode cX7_isFirst 4 = .ok (.iload_n 3, 1) := by decide +kernel
theorem dX7_isFirst_5 : decode cX7_isFirst 5 = .ok (.iload_n 1, 1) := by decide +kernel
theorem dX7_isFirst_6 : decode cX7_isFirst 6 = .ok (.if_icmp .ge 34, 3) := by decide +kernel
theorem dX7_isFirst_9 : decode cX7_isFirst 9 = .ok (.iload_n 2, 1) := by decide +kernel
theorem dX7_isFirst_10 : decode cX7_isFirst 10 = .ok (.ifCond .eq 22, 3) := by decide +kernel
theorem dX7_isFirst_13 : decode cX7_isFirst 13 = .ok (.aload_n 0, 1) := by decide +kernel
theorem dX7_isFirst_14 : decode cX7_isFirst 14 = .ok (.getfield 68, 3) := by decide +kernel
theorem dX7_isFirst_17 : decode cX7_isFirst 17 = .ok (.iload_n 3, 1) := by decide +kernel
theorem dX7_isFirst_18 : decode cX7_isFirst 18 = .ok (.iaload, 1) := by decide +kernel
theorem dX7_isFirst_19 : decode cX7_isFirst 19 = .ok (.aload_n 0, 1) := by decide +kernel
theorem dX7_isFirst_20 : decode cX7_isFirst 20 = .ok (.getfield 68, 3) := by decide +kernel
theorem dX7_isFirst_23 : decode cX7_isFirst 23 = .ok (.iload_n 1, 1) := by decide +kernel
theorem dX7_isFirst_24 : decode cX7_isFirst 24 = .ok (.iaload, 1) := by decide +kernel
theorem dX7_isFirst_25 : decode cX7_isFirst 25 = .ok (.if_icmp .eq 7, 3) := by decide +kernel
theorem dX7_isFirst_28 : decode cX7_isFirst 28 = .ok (.iconst 1, 1) := by decide +kernel
theorem dX7_isFirst_29 : decode cX7_isFirst 29 = .ok (.goto 4, 3) := by decide +kernel
theorem dX7_isFirst_32 : decode cX7_isFirst 32 = .ok (.iconst 0, 1) := by decide +kernel
theorem dX7_isFirst_33 : decode cX7_isFirst 33 = .ok (.istore_n 2, 1) := by decide +kernel
theorem dX7_isFirst_34 : decode cX7_isFirst 34 = .ok (.iinc 3 1, 3) := by decide +kernel
theorem dX7_isFirst_37 : decode cX7_isFirst 37 = .ok (.goto (-33), 3) := by decide +kernel
theorem dX7_isFirst_40 : decode cX7_isFirst 40 = .ok (.iload_n 2, 1) := by decide +kernel
theorem dX7_isFirst_41 : decode cX7_isFirst 41 = .ok (.ireturn, 1) := by decide +kernel
theorem dX7_counts_0 : decode cX7_counts 0 = .ok (.aload_n 0, 1) := by decide +kernel
theorem dX7_counts_1 : decode cX7_counts 1 = .ok (.iload_n 1, 1) := by decide +kernel
theorem dX7_counts_2 : decode cX7_counts 2 = .ok (.invokevirtual 246, 3) := by decide +kernel
theorem dX7_counts_5 : decode cX7_counts 5 = .ok (.istore_n 2, 1) := by decide +kernel
theorem dX7_counts_6 : decode cX7_counts 6 = .ok (.iload_n 1, 1) := by decide +kernel
theorem dX7_counts_7 : decode cX7_counts 7 = .ok (.iconst 1, 1) := by decide +kernel
theorem dX7_counts_8 : decode cX7_counts 8 = .ok (.iadd, 1) := by decide +kernel
theorem dX7_counts_9 : decode cX7_counts 9 = .ok (.istore_n 3, 1) := by decide +kernel
theorem dX7_counts_10 : decode cX7_counts 10 = .ok (.iload_n 3, 1) := by decide +kernel
theorem dX7_counts_11 : decode cX7_counts 11 = .ok (.aload_n 0, 1) := by decide +kernel
theorem dX7_counts_12 : decode cX7_counts 12 = .ok (.getfield 235, 3) := by decide +kernel
theorem dX7_counts_15 : decode cX7_counts 15 = .ok (.if_icmp .ge 57, 3) := by decide +kernel
theorem dX7_counts_18 : decode cX7_counts 18 = .ok (.iload_n 2, 1) := by decide +kernel
theorem dX7_counts_19 : decode cX7_counts 19 = .ok (.ifCond .eq 53, 3) := by decide +kernel
theorem dX7_counts_22 : decode cX7_counts 22 = .ok (.aload_n 0, 1) := by decide +kernel
theorem dX7_counts_23 : decode cX7_counts 23 = .ok (.getfield 62, 3) := by decide +kernel
theorem dX7_counts_26 : decode cX7_counts 26 = .ok (.iload_n 3, 1) := by decide +kernel
theorem dX7_counts_27 : decode cX7_counts 27 = .ok (.iaload, 1) := by decide +kernel
theorem dX7_counts_28 : decode cX7_counts 28 = .ok (.aload_n 0, 1) := by decide +kernel
theorem dX7_counts_29 : decode cX7_counts 29 = .ok (.getfield 62, 3) := by decide +kernel
theorem dX7_counts_32 : decode cX7_counts 32 = .ok (.iload_n 1, 1) := by decide +kernel
theorem dX7_counts_33 : decode cX7_counts 33 = .ok (.iaload, 1) := by decide +kernel
theorem dX7_counts_34 : decode cX7_counts 34 = .ok (.if_icmp .ne 26, 3) := by decide +kernel
theorem dX7_counts_37 : decode cX7_counts 37 = .ok (.aload_n 0, 1) := by decide +kernel
theorem dX7_counts_38 : decode cX7_counts 38 = .ok (.getfield 65, 3) := by decide +kernel
theorem dX7_counts_41 : decode cX7_counts 41 = .ok (.iload_n 3, 1) := by decide +kernel
theorem dX7_counts_42 : decode cX7_counts 42 = .ok (.iaload, 1) := by decide +kernel
theorem dX7_counts_43 : decode cX7_counts 43 = .ok (.aload_n 0, 1) := by decide +kernel
theorem dX7_counts_44 : decode cX7_counts 44 = .ok (.getfield 65, 3) := by decide +kernel
theorem dX7_counts_47 : decode cX7_counts 47 = .ok (.iload_n 1, 1) := by decide +kernel
theorem dX7_counts_48 : decode cX7_counts 48 = .ok (.iaload, 1) := by decide +kernel
theorem dX7_counts_49 : decode cX7_counts 49 = .ok (.if_icmp .ne 11, 3) := by decide +kernel
theorem dX7_counts_52 : decode cX7_counts 52 = .ok (.aload_n 0, 1) := by decide +kernel
theorem dX7_counts_53 : decode cX7_counts 53 = .ok (.iload_n 3, 1) := by decide +kernel
theorem dX7_counts_54 : decode cX7_counts 54 = .ok (.invokevirtual 246, 3) := by decide +kernel
theorem dX7_counts_57 : decode cX7_counts 57 = .ok (.ifCond .ne 7, 3) := by decide +kernel
theorem dX7_counts_60 : decode cX7_counts 60 = .ok (.iconst 1, 1) := by decide +kernel
theorem dX7_counts_61 : decode cX7_counts 61 = .ok (.goto 4, 3) := by decide +kernel
theorem dX7_counts_64 : decode cX7_counts 64 = .ok (.iconst 0, 1) := by decide +kernel
theorem dX7_counts_65 : decode cX7_counts 65 = .ok (.istore_n 2, 1) := by decide +kernel
theorem dX7_counts_66 : decode cX7_counts 66 = .ok (.iinc 3 1, 3) := by decide +kernel
theorem dX7_counts_69 : decode cX7_counts 69 = .ok (.goto (-59), 3) := by decide +kernel
theorem dX7_counts_72 : decode cX7_counts 72 = .ok (.iload_n 2, 1) := by decide +kernel
theorem dX7_counts_73 : decode cX7_counts 73 = .ok (.ireturn, 1) := by decide +kernel
theorem dX7_wordOf_0 : decode cX7_wordOf 0 = .ok (.iload_n 1, 1) := by decide +kernel
theorem dX7_wordOf_1 : decode cX7_wordOf 1 = .ok (.i2l, 1) := by decide +kernel
theorem dX7_wordOf_2 : decode cX7_wordOf 2 = .ok (.lconst 0, 1) := by decide +kernel
theorem dX7_wordOf_3 : decode cX7_wordOf 3 = .ok (.aload_n 0, 1) := by decide +kernel
theorem dX7_wordOf_4 : decode cX7_wordOf 4 = .ok (.getfield 235, 3) := by decide +kernel
theorem dX7_wordOf_7 : decode cX7_wordOf 7 = .ok (.iconst 1, 1) := by decide +kernel
theorem dX7_wordOf_8 : decode cX7_wordOf 8 = .ok (.isub, 1) := by decide +kernel
theorem dX7_wordOf_9 : decode cX7_wordOf 9 = .ok (.i2l, 1) := by decide +kernel
theorem dX7_wordOf_10 : decode cX7_wordOf 10 = .ok (.invokestatic 102, 3) := by decide +kernel
theorem dX7_wordOf_13 : decode cX7_wordOf 13 = .ok (.ifCond .eq 15, 3) := by decide +kernel
theorem dX7_wordOf_16 : decode cX7_wordOf 16 = .ok (.iload_n 2, 1) := by decide +kernel
theorem dX7_wordOf_17 : decode cX7_wordOf 17 = .ok (.i2l, 1) := by decide +kernel
theorem dX7_wordOf_18 : decode cX7_wordOf 18 = .ok (.lconst 0, 1) := by decide +kernel
theorem dX7_wordOf_19 : decode cX7_wordOf 19 = .ok (.ldc2_w 134, 3) := by decide +kernel
theorem dX7_wordOf_22 : decode cX7_wordOf 22 = .ok (.invokestatic 102, 3) := by decide +kernel
theorem dX7_wordOf_25 : decode cX7_wordOf 25 = .ok (.ifCond .ne 5, 3) := by decide +kernel
theorem dX7_wordOf_28 : decode cX7_wordOf 28 = .ok (.iconst (-1), 1) := by decide +kernel
theorem dX7_wordOf_29 : decode cX7_wordOf 29 = .ok (.ireturn, 1) := by decide +kernel
theorem dX7_wordOf_30 : decode cX7_wordOf 30 = .ok (.iload_n 2, 1) := by decide +kernel
theorem dX7_wordOf_31 : decode cX7_wordOf 31 = .ok (.ifCond .ne 12, 3) := by decide +kernel
theorem dX7_wordOf_34 : decode cX7_wordOf 34 = .ok (.aload_n 0, 1) := by decide +kernel
theorem dX7_wordOf_35 : decode cX7_wordOf 35 = .ok (.getfield 62, 3) := by decide +kernel
theorem dX7_wordOf_38 : decode cX7_wordOf 38 = .ok (.iload_n 1, 1) := by decide +kernel
theorem dX7_wordOf_39 : decode cX7_wordOf 39 = .ok (.iaload, 1) := by decide +kernel
theorem dX7_wordOf_40 : decode cX7_wordOf 40 = .ok (.goto 72, 3) := by decide +kernel
theorem dX7_wordOf_43 : decode cX7_wordOf 43 = .ok (.iload_n 2, 1) := by decide +kernel
theorem dX7_wordOf_44 : decode cX7_wordOf 44 = .ok (.iconst 1, 1) := by decide +kernel
theorem dX7_wordOf_45 : decode cX7_wordOf 45 = .ok (.if_icmp .ne 12, 3) := by decide +kernel
theorem dX7_wordOf_48 : decode cX7_wordOf 48 = .ok (.aload_n 0, 1) := by decide +kernel
theorem dX7_wordOf_49 : decode cX7_wordOf 49 = .ok (.getfield 65, 3) := by decide +kernel
theorem dX7_wordOf_52 : decode cX7_wordOf 52 = .ok (.iload_n 1, 1) := by decide +kernel
theorem dX7_wordOf_53 : decode cX7_wordOf 53 = .ok (.iaload, 1) := by decide +kernel
theorem dX7_wordOf_54 : decode cX7_wordOf 54 = .ok (.goto 58, 3) := by decide +kernel
theorem dX7_wordOf_57 : decode cX7_wordOf 57 = .ok (.iload_n 2, 1) := by decide +kernel
theorem dX7_wordOf_58 : decode cX7_wordOf 58 = .ok (.iconst 2, 1) := by decide +kernel
theorem dX7_wordOf_59 : decode cX7_wordOf 59 = .ok (.if_icmp .ne 12, 3) := by decide +kernel
theorem dX7_wordOf_62 : decode cX7_wordOf 62 = .ok (.aload_n 0, 1) := by decide +kernel
theorem dX7_wordOf_63 : decode cX7_wordOf 63 = .ok (.getfield 68, 3) := by decide +kernel
theorem dX7_wordOf_66 : decode cX7_wordOf 66 = .ok (.iload_n 1, 1) := by decide +kernel
theorem dX7_wordOf_67 : decode cX7_wordOf 67 = .ok (.iaload, 1) := by decide +kernel
theorem dX7_wordOf_68 : decode cX7_wordOf 68 = .ok (.goto 44, 3) := by decide +kernel
theorem dX7_wordOf_71 : decode cX7_wordOf 71 = .ok (.iload_n 2, 1) := by decide +kernel
theorem dX7_wordOf_72 : decode cX7_wordOf 72 = .ok (.iconst 3, 1) := by decide +kernel
theorem dX7_wordOf_73 : decode cX7_wordOf 73 = .ok (.if_icmp .ne 12, 3) := by decide +kernel
theorem dX7_wordOf_76 : decode cX7_wordOf 76 = .ok (.aload_n 0, 1) := by decide +kernel
theorem dX7_wordOf_77 : decode cX7_wordOf 77 = .ok (.getfield 71, 3) := by decide +kernel
theorem dX7_wordOf_80 : decode cX7_wordOf 80 = .ok (.iload_n 1, 1) := by decide +kernel
theorem dX7_wordOf_81 : decode cX7_wordOf 81 = .ok (.iaload, 1) := by decide +kernel
theorem dX7_wordOf_82 : decode cX7_wordOf 82 = .ok (.goto 30, 3) := by decide +kernel
theorem dX7_wordOf_85 : decode cX7_wordOf 85 = .ok (.iload_n 2, 1) := by decide +kernel
theorem dX7_wordOf_86 : decode cX7_wordOf 86 = .ok (.iconst 4, 1) := by decide +kernel
theorem dX7_wordOf_87 : decode cX7_wordOf 87 = .ok (.if_icmp .ne 12, 3) := by decide +kernel
theorem dX7_wordOf_90 : decode cX7_wordOf 90 = .ok (.aload_n 0, 1) := by decide +kernel
theorem dX7_wordOf_91 : decode cX7_wordOf 91 = .ok (.getfield 74, 3) := by decide +kernel
theorem dX7_wordOf_94 : decode cX7_wordOf 94 = .ok (.iload_n 1, 1) := by decide +kernel
theorem dX7_wordOf_95 : decode cX7_wordOf 95 = .ok (.iaload, 1) := by decide +kernel
theorem dX7_wordOf_96 : decode cX7_wordOf 96 = .ok (.goto 16, 3) := by decide +kernel
theorem dX7_wordOf_99 : decode cX7_wordOf 99 = .ok (.aload_n 0, 1) := by decide +kernel
theorem dX7_wordOf_100 : decode cX7_wordOf 100 = .ok (.iload_n 1, 1) := by decide +kernel
theorem dX7_wordOf_101 : decode cX7_wordOf 101 = .ok (.invokevirtual 249, 3) := by decide +kernel
theorem dX7_wordOf_104 : decode cX7_wordOf 104 = .ok (.ifCond .eq 7, 3) := by decide +kernel
theorem dX7_wordOf_107 : decode cX7_wordOf 107 = .ok (.iconst 1, 1) := by decide +kernel
theorem dX7_wordOf_108 : decode cX7_wordOf 108 = .ok (.goto 4, 3) := by decide +kernel
theorem dX7_wordOf_111 : decode cX7_wordOf 111 = .ok (.iconst 0, 1) := by decide +kernel
theorem dX7_wordOf_112 : decode cX7_wordOf 112 = .ok (.ireturn, 1) := by decide +kernel
theorem dX7_wordBy_0 : decode cX7_wordBy 0 = .ok (.bipush (-4), 2) := by decide +kernel
theorem dX7_wordBy_2 : decode cX7_wordBy 2 = .ok (.istore_n 3, 1) := by decide +kernel
theorem dX7_wordBy_3 : decode cX7_wordBy 3 = .ok (.iconst 0, 1) := by decide +kernel
theorem dX7_wordBy_4 : decode cX7_wordBy 4 = .ok (.istore 4, 2) := by decide +kernel
theorem dX7_wordBy_6 : decode cX7_wordBy 6 = .ok (.iload 4, 2) := by decide +kernel
theorem dX7_wordBy_8 : decode cX7_wordBy 8 = .ok (.aload_n 0, 1) := by decide +kernel
theorem dX7_wordBy_9 : decode cX7_wordBy 9 = .ok (.getfield 235, 3) := by decide +kernel
theorem dX7_wordBy_12 : decode cX7_wordBy 12 = .ok (.if_icmp .ge 47, 3) := by decide +kernel
theorem dX7_wordBy_15 : decode cX7_wordBy 15 = .ok (.aload_n 0, 1) := by decide +kernel
theorem dX7_wordBy_16 : decode cX7_wordBy 16 = .ok (.getfield 62, 3) := by decide +kernel
theorem dX7_wordBy_19 : decode cX7_wordBy 19 = .ok (.iload 4, 2) := by decide +kernel
theorem dX7_wordBy_21 : decode cX7_wordBy 21 = .ok (.iaload, 1) := by decide +kernel
theorem dX7_wordBy_22 : decode cX7_wordBy 22 = .ok (.iload_n 1, 1) := by decide +kernel
theorem dX7_wordBy_23 : decode cX7_wordBy 23 = .ok (.if_icmp .ne 28, 3) := by decide +kernel
theorem dX7_wordBy_26 : decode cX7_wordBy 26 = .ok (.aload_n 0, 1) := by decide +kernel
theorem dX7_wordBy_27 : decode cX7_wordBy 27 = .ok (.getfield 65, 3) := by decide +kernel
theorem dX7_wordBy_30 : decode cX7_wordBy 30 = .ok (.iload 4, 2) := by decide +kernel
theorem dX7_wordBy_32 : decode cX7_wordBy 32 = .ok (.iaload, 1) := by decide +kernel
theorem dX7_wordBy_33 : decode cX7_wordBy 33 = .ok (.iload_n 2, 1) := by decide +kernel
theorem dX7_wordBy_34 : decode cX7_wordBy 34 = .ok (.if_icmp .ne 17, 3) := by decide +kernel
theorem dX7_wordBy_37 : decode cX7_wordBy 37 = .ok (.aload_n 0, 1) := by decide +kernel
theorem dX7_wordBy_38 : decode cX7_wordBy 38 = .ok (.iload 4, 2) := by decide +kernel
theorem dX7_wordBy_40 : decode cX7_wordBy 40 = .ok (.invokevirtual 249, 3) := by decide +kernel
theorem dX7_wordBy_43 : decode cX7_wordBy 43 = .ok (.ifCond .eq 8, 3) := by decide +kernel
theorem dX7_wordBy_46 : decode cX7_wordBy 46 = .ok (.iload 4, 2) := by decide +kernel
theorem dX7_wordBy_48 : decode cX7_wordBy 48 = .ok (.goto 4, 3) := by decide +kernel
theorem dX7_wordBy_51 : decode cX7_wordBy 51 = .ok (.iload_n 3, 1) := by decide +kernel
theorem dX7_wordBy_52 : decode cX7_wordBy 52 = .ok (.istore_n 3, 1) := by decide +kernel
theorem dX7_wordBy_53 : decode cX7_wordBy 53 = .ok (.iinc 4 1, 3) := by decide +kernel
theorem dX7_wordBy_56 : decode cX7_wordBy 56 = .ok (.goto (-50), 3) := by decide +kernel
theorem dX7_wordBy_59 : decode cX7_wordBy 59 = .ok (.iload_n 3, 1) := by decide +kernel
theorem dX7_wordBy_60 : decode cX7_wordBy 60 = .ok (.ireturn, 1) := by decide +kernel
theorem dX7_sayersOf_0 : decode cX7_sayersOf 0 = .ok (.iconst 0, 1) := by decide +kernel
theorem dX7_sayersOf_1 : decode cX7_sayersOf 1 = .ok (.istore_n 2, 1) := by decide +kernel
theorem dX7_sayersOf_2 : decode cX7_sayersOf 2 = .ok (.iconst 0, 1) := by decide +kernel
theorem dX7_sayersOf_3 : decode cX7_sayersOf 3 = .ok (.istore_n 3, 1) := by decide +kernel
theorem dX7_sayersOf_4 : decode cX7_sayersOf 4 = .ok (.iload_n 3, 1) := by decide +kernel
theorem dX7_sayersOf_5 : decode cX7_sayersOf 5 = .ok (.aload_n 0, 1) := by decide +kernel
theorem dX7_sayersOf_6 : decode cX7_sayersOf 6 = .ok (.getfield 98, 3) := by decide +kernel
theorem dX7_sayersOf_9 : decode cX7_sayersOf 9 = .ok (.if_icmp .ge 39, 3) := by decide +kernel
theorem dX7_sayersOf_12 : decode cX7_sayersOf 12 = .ok (.iload_n 2, 1) := by decide +kernel
theorem dX7_sayersOf_13 : decode cX7_sayersOf 13 = .ok (.aload_n 0, 1) := by decide +kernel
theorem dX7_sayersOf_14 : decode cX7_sayersOf 14 = .ok (.getfield 17, 3) := by decide +kernel
theorem dX7_sayersOf_17 : decode cX7_sayersOf 17 = .ok (.iload_n 3, 1) := by decide +kernel
theorem dX7_sayersOf_18 : decode cX7_sayersOf 18 = .ok (.baload, 1) := by decide +kernel
theorem dX7_sayersOf_19 : decode cX7_sayersOf 19 = .ok (.ifCond .ne 20, 3) := by decide +kernel
theorem dX7_sayersOf_22 : decode cX7_sayersOf 22 = .ok (.aload_n 0, 1) := by decide +kernel
theorem dX7_sayersOf_23 : decode cX7_sayersOf 23 = .ok (.iload_n 3, 1) := by decide +kernel
theorem dX7_sayersOf_24 : decode cX7_sayersOf 24 = .ok (.iload_n 1, 1) := by decide +kernel
theorem dX7_sayersOf_25 : decode cX7_sayersOf 25 = .ok (.invokevirtual 252, 3) := by decide +kernel
theorem dX7_sayersOf_28 : decode cX7_sayersOf 28 = .ok (.bipush (-4), 2) := by decide +kernel
theorem dX7_sayersOf_30 : decode cX7_sayersOf 30 = .ok (.if_icmp .eq 9, 3) := by decide +kernel
theorem dX7_sayersOf_33 : decode cX7_sayersOf 33 = .ok (.iconst 1, 1) := by decide +kernel
theorem dX7_sayersOf_34 : decode cX7_sayersOf 34 = .ok (.iload_n 3, 1) := by decide +kernel
theorem dX7_sayersOf_35 : decode cX7_sayersOf 35 = .ok (.ishl, 1) := by decide +kernel
theorem dX7_sayersOf_36 : decode cX7_sayersOf 36 = .ok (.goto 4, 3) := by decide +kernel
theorem dX7_sayersOf_39 : decode cX7_sayersOf 39 = .ok (.iconst 0, 1) := by decide +kernel
theorem dX7_sayersOf_40 : decode cX7_sayersOf 40 = .ok (.ior, 1) := by decide +kernel
theorem dX7_sayersOf_41 : decode cX7_sayersOf 41 = .ok (.istore_n 2, 1) := by decide +kernel
theorem dX7_sayersOf_42 : decode cX7_sayersOf 42 = .ok (.iinc 3 1, 3) := by decide +kernel
theorem dX7_sayersOf_45 : decode cX7_sayersOf 45 = .ok (.goto (-41), 3) := by decide +kernel
theorem dX7_sayersOf_48 : decode cX7_sayersOf 48 = .ok (.iload_n 2, 1) := by decide +kernel
theorem dX7_sayersOf_49 : decode cX7_sayersOf 49 = .ok (.ireturn, 1) := by decide +kernel
theorem dX7_weightOf_0 : decode cX7_weightOf 0 = .ok (.aload_n 0, 1) := by decide +kernel
theorem dX7_weightOf_1 : decode cX7_weightOf 1 = .ok (.iload_n 2, 1) := by decide +kernel
theorem dX7_weightOf_2 : decode cX7_weightOf 2 = .ok (.invokevirtual 256, 3) := by decide +kernel
theorem dX7_weightOf_5 : decode cX7_weightOf 5 = .ok (.iconst 1, 1) := by decide +kernel
theorem dX7_weightOf_6 : decode cX7_weightOf 6 = .ok (.iload_n 1, 1) := by decide +kernel
theorem dX7_weightOf_7 : decode cX7_weightOf 7 = .ok (.ishl, 1) := by decide +kernel
theorem dX7_weightOf_8 : decode cX7_weightOf 8 = .ok (.iconst 1, 1) := by decide +kernel
theorem dX7_weightOf_9 : decode cX7_weightOf 9 = .ok (.isub, 1) := by decide +kernel
theorem dX7_weightOf_10 : decode cX7_weightOf 10 = .ok (.iand, 1) := by decide +kernel
theorem dX7_weightOf_11 : decode cX7_weightOf 11 = .ok (.istore_n 3, 1) := by decide +kernel
theorem dX7_weightOf_12 : decode cX7_weightOf 12 = .ok (.aload_n 0, 1) := by decide +kernel
theorem dX7_weightOf_13 : decode cX7_weightOf 13 = .ok (.iload_n 3, 1) := by decide +kernel
theorem dX7_weightOf_14 : decode cX7_weightOf 14 = .ok (.iconst 1, 1) := by decide +kernel
theorem dX7_weightOf_15 : decode cX7_weightOf 15 = .ok (.iload_n 1, 1) := by decide +kernel
theorem dX7_weightOf_16 : decode cX7_weightOf 16 = .ok (.ishl, 1) := by decide +kernel
theorem dX7_weightOf_17 : decode cX7_weightOf 17 = .ok (.ior, 1) := by decide +kernel
theorem dX7_weightOf_18 : decode cX7_weightOf 18 = .ok (.invokevirtual 220, 3) := by decide +kernel
theorem dX7_weightOf_21 : decode cX7_weightOf 21 = .ok (.aload_n 0, 1) := by decide +kernel
theorem dX7_weightOf_22 : decode cX7_weightOf 22 = .ok (.iload_n 3, 1) := by decide +kernel
theorem dX7_weightOf_23 : decode cX7_weightOf 23 = .ok (.invokevirtual 220, 3) := by decide +kernel
theorem dX7_weightOf_26 : decode cX7_weightOf 26 = .ok (.isub, 1) := by decide +kernel
theorem dX7_weightOf_27 : decode cX7_weightOf 27 = .ok (.istore 4, 2) := by decide +kernel
theorem dX7_weightOf_29 : decode cX7_weightOf 29 = .ok (.iload 4, 2) := by decide +kernel
theorem dX7_weightOf_31 : decode cX7_weightOf 31 = .ok (.aload_n 0, 1) := by decide +kernel
theorem dX7_weightOf_32 : decode cX7_weightOf 32 = .ok (.getfield 41, 3) := by decide +kernel
theorem dX7_weightOf_35 : decode cX7_weightOf 35 = .ok (.iconst 5, 1) := by decide +kernel
theorem dX7_weightOf_36 : decode cX7_weightOf 36 = .ok (.iaload, 1) := by decide +kernel
theorem dX7_weightOf_37 : decode cX7_weightOf 37 = .ok (.aload_n 0, 1) := by decide +kernel
theorem dX7_weightOf_38 : decode cX7_weightOf 38 = .ok (.getfield 106, 3) := by decide +kernel
theorem dX7_weightOf_41 : decode cX7_weightOf 41 = .ok (.aload_n 0, 1) := by decide +kernel
theorem dX7_weightOf_42 : decode cX7_weightOf 42 = .ok (.getfield 74, 3) := by decide +kernel
theorem dX7_weightOf_45 : decode cX7_weightOf 45 = .ok (.aload_n 0, 1) := by decide +kernel
theorem dX7_weightOf_46 : decode cX7_weightOf 46 = .ok (.iload_n 1, 1) := by decide +kernel
theorem dX7_weightOf_47 : decode cX7_weightOf 47 = .ok (.iload_n 2, 1) := by decide +kernel
theorem dX7_weightOf_48 : decode cX7_weightOf 48 = .ok (.invokevirtual 252, 3) := by decide +kernel
theorem dX7_weightOf_51 : decode cX7_weightOf 51 = .ok (.iaload, 1) := by decide +kernel
theorem dX7_weightOf_52 : decode cX7_weightOf 52 = .ok (.isub, 1) := by decide +kernel
theorem dX7_weightOf_53 : decode cX7_weightOf 53 = .ok (.invokestatic 124, 3) := by decide +kernel
theorem dX7_weightOf_56 : decode cX7_weightOf 56 = .ok (.ireturn, 1) := by decide +kernel
theorem dX7_weight_0 : decode cX7_weight 0 = .ok (.aload_n 0, 1) := by decide +kernel
theorem dX7_weight_1 : decode cX7_weight 1 = .ok (.iload_n 1, 1) := by decide +kernel
theorem dX7_weight_2 : decode cX7_weight 2 = .ok (.invokevirtual 111, 3) := by decide +kernel
theorem dX7_weight_5 : decode cX7_weight 5 = .ok (.ifCond .eq 16, 3) := by decide +kernel
theorem dX7_weight_8 : decode cX7_weight 8 = .ok (.aload_n 0, 1) := by decide +kernel
theorem dX7_weight_9 : decode cX7_weight 9 = .ok (.iload_n 2, 1) := by decide +kernel
theorem dX7_weight_10 : decode cX7_weight 10 = .ok (.invokevirtual 111, 3) := by decide +kernel
theorem dX7_weight_13 : decode cX7_weight 13 = .ok (.ifCond .eq 8, 3) := by decide +kernel
theorem dX7_weight_16 : decode cX7_weight 16 = .ok (.iload_n 2, 1) := by decide +kernel
theorem dX7_weight_17 : decode cX7_weight 17 = .ok (.iload_n 1, 1) := by decide +kernel
theorem dX7_weight_18 : decode cX7_weight 18 = .ok (.if_icmp .ne 5, 3) := by decide +kernel
theorem dX7_weight_21 : decode cX7_weight 21 = .ok (.iconst (-1), 1) := by decide +kernel
theorem dX7_weight_22 : decode cX7_weight 22 = .ok (.ireturn, 1) := by decide +kernel
theorem dX7_weight_23 : decode cX7_weight 23 = .ok (.aload_n 0, 1) := by decide +kernel
theorem dX7_weight_24 : decode cX7_weight 24 = .ok (.iload_n 1, 1) := by decide +kernel
theorem dX7_weight_25 : decode cX7_weight 25 = .ok (.invokevirtual 256, 3) := by decide +kernel
theorem dX7_weight_28 : decode cX7_weight 28 = .ok (.iload_n 2, 1) := by decide +kernel
theorem dX7_weight_29 : decode cX7_weight 29 = .ok (.ishr, 1) := by decide +kernel
theorem dX7_weight_30 : decode cX7_weight 30 = .ok (.iconst 1, 1) := by decide +kernel
theorem dX7_weight_31 : decode cX7_weight 31 = .ok (.iand, 1) := by decide +kernel
theorem dX7_weight_32 : decode cX7_weight 32 = .ok (.iconst 1, 1) := by decide +kernel
theorem dX7_weight_33 : decode cX7_weight 33 = .ok (.if_icmp .ne 12, 3) := by decide +kernel
theorem dX7_weight_36 : decode cX7_weight 36 = .ok (.aload_n 0, 1) := by decide +kernel
theorem dX7_weight_37 : decode cX7_weight 37 = .ok (.iload_n 2, 1) := by decide +kernel
theorem dX7_weight_38 : decode cX7_weight 38 = .ok (.iload_n 1, 1) := by decide +kernel
theorem dX7_weight_39 : decode cX7_weight 39 = .ok (.invokevirtual 259, 3) := by decide +kernel
theorem dX7_weight_42 : decode cX7_weight 42 = .ok (.goto 5, 3) := by decide +kernel
theorem dX7_weight_45 : decode cX7_weight 45 = .ok (.bipush (-4), 2) := by decide +kernel
theorem dX7_weight_47 : decode cX7_weight 47 = .ok (.ireturn, 1) := by decide +kernel
theorem dX7_sayers_0 : decode cX7_sayers 0 = .ok (.aload_n 0, 1) := by decide +kernel
theorem dX7_sayers_1 : decode cX7_sayers 1 = .ok (.iload_n 1, 1) := by decide +kernel
theorem dX7_sayers_2 : decode cX7_sayers 2 = .ok (.invokevirtual 111, 3) := by decide +kernel
theorem dX7_sayers_5 : decode cX7_sayers 5 = .ok (.ifCond .eq 11, 3) := by decide +kernel
theorem dX7_sayers_8 : decode cX7_sayers 8 = .ok (.aload_n 0, 1) := by decide +kernel
theorem dX7_sayers_9 : decode cX7_sayers 9 = .ok (.iload_n 1, 1) := by decide +kernel
theorem dX7_sayers_10 : decode cX7_sayers 10 = .ok (.invokevirtual 256, 3) := by decide +kernel
theorem dX7_sayers_13 : decode cX7_sayers 13 = .ok (.goto 4, 3) := by decide +kernel
theorem dX7_sayers_16 : decode cX7_sayers 16 = .ok (.iconst (-1), 1) := by decide +kernel
theorem dX7_sayers_17 : decode cX7_sayers 17 = .ok (.ireturn, 1) := by decide +kernel
theorem dX7_lists_0 : decode cX7_lists 0 = .ok (.aload_n 0, 1) := by decide +kernel
theorem dX7_lists_1 : decode cX7_lists 1 = .ok (.iload_n 1, 1) := by decide +kernel
theorem dX7_lists_2 : decode cX7_lists 2 = .ok (.invokevirtual 256, 3) := by decide +kernel
theorem dX7_lists_5 : decode cX7_lists 5 = .ok (.istore_n 2, 1) := by decide +kernel
theorem dX7_lists_6 : decode cX7_lists 6 = .ok (.aload_n 0, 1) := by decide +kernel
theorem dX7_lists_7 : decode cX7_lists 7 = .ok (.iconst 0, 1) := by decide +kernel
theorem dX7_lists_8 : decode cX7_lists 8 = .ok (.putfield 262, 3) := by decide +kernel
theorem dX7_lists_11 : decode cX7_lists 11 = .ok (.aload_n 0, 1) := by decide +kernel
theorem dX7_lists_12 : decode cX7_lists 12 = .ok (.iconst 0, 1) := by decide +kernel
theorem dX7_lists_13 : decode cX7_lists 13 = .ok (.putfield 265, 3) := by decide +kernel
theorem dX7_lists_16 : decode cX7_lists 16 = .ok (.aload_n 0, 1) := by decide +kernel
theorem dX7_lists_17 : decode cX7_lists 17 = .ok (.iconst 0, 1) := by decide +kernel
theorem dX7_lists_18 : decode cX7_lists 18 = .ok (.putfield 268, 3) := by decide +kernel
theorem dX7_lists_21 : decode cX7_lists 21 = .ok (.iconst 0, 1) := by decide +kernel
theorem dX7_lists_22 : decode cX7_lists 22 = .ok (.istore_n 3, 1) := by decide +kernel
theorem dX7_lists_23 : decode cX7_lists 23 = .ok (.iload_n 3, 1) := by decide +kernel
theorem dX7_lists_24 : decode cX7_lists 24 = .ok (.aload_n 0, 1) := by decide +kernel
theorem dX7_lists_25 : decode cX7_lists 25 = .ok (.getfield 98, 3) := by decide +kernel
theorem dX7_lists_28 : decode cX7_lists 28 = .ok (.if_icmp .ge 109, 3) := by decide +kernel
theorem dX7_lists_31 : decode cX7_lists 31 = .ok (.iload_n 2, 1) := by decide +kernel
theorem dX7_lists_32 : decode cX7_lists 32 = .ok (.iload_n 3, 1) := by decide +kernel
theorem dX7_lists_33 : decode cX7_lists 33 = .ok (.ishr, 1) := by decide +kernel
theorem dX7_lists_34 : decode cX7_lists 34 = .ok (.iconst 1, 1) := by decide +kernel
theorem dX7_lists_35 : decode cX7_lists 35 = .ok (.iand, 1) := by decide +kernel
theorem dX7_lists_36 : decode cX7_lists 36 = .ok (.iconst 1, 1) := by decide +kernel
theorem dX7_lists_37 : decode cX7_lists 37 = .ok (.if_icmp .ne 94, 3) := by decide +kernel
theorem dX7_lists_40 : decode cX7_lists 40 = .ok (.aload_n 0, 1) := by decide +kernel
theorem dX7_lists_41 : decode cX7_lists 41 = .ok (.getfield 77, 3) := by decide +kernel
theorem dX7_lists_44 : decode cX7_lists 44 = .ok (.aload_n 0, 1) := by decide +kernel
theorem dX7_lists_45 : decode cX7_lists 45 = .ok (.getfield 262, 3) := by decide +kernel
theorem dX7_lists_48 : decode cX7_lists 48 = .ok (.aload_n 0, 1) := by decide +kernel
theorem dX7_lists_49 : decode cX7_lists 49 = .ok (.iload_n 3, 1) := by decide +kernel
theorem dX7_lists_50 : decode cX7_lists 50 = .ok (.iload_n 1, 1) := by decide +kernel
theorem dX7_lists_51 : decode cX7_lists 51 = .ok (.invokevirtual 259, 3) := by decide +kernel
theorem dX7_lists_54 : decode cX7_lists 54 = .ok (.iastore, 1) := by decide +kernel
theorem dX7_lists_55 : decode cX7_lists 55 = .ok (.aload_n 0, 1) := by decide +kernel
theorem dX7_lists_56 : decode cX7_lists 56 = .ok (.getfield 80, 3) := by decide +kernel
theorem dX7_lists_59 : decode cX7_lists 59 = .ok (.aload_n 0, 1) := by decide +kernel
theorem dX7_lists_60 : decode cX7_lists 60 = .ok (.getfield 262, 3) := by decide +kernel
theorem dX7_lists_63 : decode cX7_lists 63 = .ok (.aload_n 0, 1) := by decide +kernel
theorem dX7_lists_64 : decode cX7_lists 64 = .ok (.getfield 71, 3) := by decide +kernel
theorem dX7_lists_67 : decode cX7_lists 67 = .ok (.aload_n 0, 1) := by decide +kernel
theorem dX7_lists_68 : decode cX7_lists 68 = .ok (.iload_n 3, 1) := by decide +kernel
theorem dX7_lists_69 : decode cX7_lists 69 = .ok (.iload_n 1, 1) := by decide +kernel
theorem dX7_lists_70 : decode cX7_lists 70 = .ok (.invokevirtual 252, 3) := by decide +kernel
theorem dX7_lists_73 : decode cX7_lists 73 = .ok (.iaload, 1) := by decide +kernel
theorem dX7_lists_74 : decode cX7_lists 74 = .ok (.iastore, 1) := by decide +kernel
theorem dX7_lists_75 : decode cX7_lists 75 = .ok (.aload_n 0, 1) := by decide +kernel
theorem dX7_lists_76 : decode cX7_lists 76 = .ok (.dup, 1) := by decide +kernel
theorem dX7_lists_77 : decode cX7_lists 77 = .ok (.getfield 265, 3) := by decide +kernel
theorem dX7_lists_80 : decode cX7_lists 80 = .ok (.aload_n 0, 1) := by decide +kernel
theorem dX7_lists_81 : decode cX7_lists 81 = .ok (.getfield 77, 3) := by decide +kernel
theorem dX7_lists_84 : decode cX7_lists 84 = .ok (.aload_n 0, 1) := by decide +kernel
theorem dX7_lists_85 : decode cX7_lists 85 = .ok (.getfield 262, 3) := by decide +kernel
theorem dX7_lists_88 : decode cX7_lists 88 = .ok (.iaload, 1) := by decide +kernel
theorem dX7_lists_89 : decode cX7_lists 89 = .ok (.iadd, 1) := by decide +kernel
theorem dX7_lists_90 : decode cX7_lists 90 = .ok (.putfield 265, 3) := by decide +kernel
theorem dX7_lists_93 : decode cX7_lists 93 = .ok (.aload_n 0, 1) := by decide +kernel
theorem dX7_lists_94 : decode cX7_lists 94 = .ok (.dup, 1) := by decide +kernel
theorem dX7_lists_95 : decode cX7_lists 95 = .ok (.getfield 268, 3) := by decide +kernel
theorem dX7_lists_98 : decode cX7_lists 98 = .ok (.aload_n 0, 1) := by decide +kernel
theorem dX7_lists_99 : decode cX7_lists 99 = .ok (.getfield 77, 3) := by decide +kernel
theorem dX7_lists_102 : decode cX7_lists 102 = .ok (.aload_n 0, 1) := by decide +kernel
theorem dX7_lists_103 : decode cX7_lists 103 = .ok (.getfield 262, 3) := by decide +kernel
theorem dX7_lists_106 : decode cX7_lists 106 = .ok (.iaload, 1) := by decide +kernel
theorem dX7_lists_107 : decode cX7_lists 107 = .ok (.aload_n 0, 1) := by decide +kernel
theorem dX7_lists_108 : decode cX7_lists 108 = .ok (.getfield 80, 3) := by decide +kernel
theorem dX7_lists_111 : decode cX7_lists 111 = .ok (.aload_n 0, 1) := by decide +kernel
theorem dX7_lists_112 : decode cX7_lists 112 = .ok (.getfield 262, 3) := by decide +kernel
theorem dX7_lists_115 : decode cX7_lists 115 = .ok (.iaload, 1) := by decide +kernel
theorem dX7_lists_116 : decode cX7_lists 116 = .ok (.imul, 1) := by decide +kernel
theorem dX7_lists_117 : decode cX7_lists 117 = .ok (.iadd, 1) := by decide +kernel
theorem dX7_lists_118 : decode cX7_lists 118 = .ok (.putfield 268, 3) := by decide +kernel
theorem dX7_lists_121 : decode cX7_lists 121 = .ok (.aload_n 0, 1) := by decide +kernel
theorem dX7_lists_122 : decode cX7_lists 122 = .ok (.dup, 1) := by decide +kernel
theorem dX7_lists_123 : decode cX7_lists 123 = .ok (.getfield 262, 3) := by decide +kernel
theorem dX7_lists_126 : decode cX7_lists 126 = .ok (.iconst 1, 1) := by decide +kernel
theorem dX7_lists_127 : decode cX7_lists 127 = .ok (.iadd, 1) := by decide +kernel
theorem dX7_lists_128 : decode cX7_lists 128 = .ok (.putfield 262, 3) := by decide +kernel
theorem dX7_lists_131 : decode cX7_lists 131 = .ok (.iinc 3 1, 3) := by decide +kernel
theorem dX7_lists_134 : decode cX7_lists 134 = .ok (.goto (-111), 3) := by decide +kernel
theorem dX7_lists_137 : decode cX7_lists 137 = .ok (.return_, 1) := by decide +kernel
theorem dX7_fraction_0 : decode cX7_fraction 0 = .ok (.iload_n 1, 1) := by decide +kernel
theorem dX7_fraction_1 : decode cX7_fraction 1 = .ok (.i2l, 1) := by decide +kernel
theorem dX7_fraction_2 : decode cX7_fraction 2 = .ok (.aload_n 0, 1) := by decide +kernel
theorem dX7_fraction_3 : decode cX7_fraction 3 = .ok (.getfield 265, 3) := by decide +kernel
theorem dX7_fraction_6 : decode cX7_fraction 6 = .ok (.i2l, 1) := by decide +kernel
theorem dX7_fraction_7 : decode cX7_fraction 7 = .ok (.invokestatic 271, 3) := by decide +kernel
theorem dX7_fraction_10 : decode cX7_fraction 10 = .ok (.l2i, 1) := by decide +kernel
theorem dX7_fraction_11 : decode cX7_fraction 11 = .ok (.istore_n 3, 1) := by decide +kernel
theorem dX7_fraction_12 : decode cX7_fraction 12 = .ok (.iload_n 2, 1) := by decide +kernel
theorem dX7_fraction_13 : decode cX7_fraction 13 = .ok (.iconst 2, 1) := by decide +kernel
theorem dX7_fraction_14 : decode cX7_fraction 14 = .ok (.irem, 1) := by decide +kernel
theorem dX7_fraction_15 : decode cX7_fraction 15 = .ok (.ifCond .ne 9, 3) := by decide +kernel
theorem dX7_fraction_18 : decode cX7_fraction 18 = .ok (.iload_n 1, 1) := by decide +kernel
theorem dX7_fraction_19 : decode cX7_fraction 19 = .ok (.iload_n 3, 1) := by decide +kernel
theorem dX7_fraction_20 : decode cX7_fraction 20 = .ok (.idiv, 1) := by decide +kernel
theorem dX7_fraction_21 : decode cX7_fraction 21 = .ok (.goto 9, 3) := by decide +kernel
theorem dX7_fraction_24 : decode cX7_fraction 24 = .ok (.aload_n 0, 1) := by decide +kernel
theorem dX7_fraction_25 : decode cX7_fraction 25 = .ok (.getfield 265, 3) := by decide +kernel
theorem dX7_fraction_28 : decode cX7_fraction 28 = .ok (.iload_n 3, 1) := by decide +kernel
theorem dX7_fraction_29 : decode cX7_fraction 29 = .ok (.idiv, 1) := by decide +kernel
theorem dX7_fraction_30 : decode cX7_fraction 30 = .ok (.ireturn, 1) := by decide +kernel
theorem dX7_mark_0 : decode cX7_mark 0 = .ok (.aload_n 0, 1) := by decide +kernel
theorem dX7_mark_1 : decode cX7_mark 1 = .ok (.iload_n 1, 1) := by decide +kernel
theorem dX7_mark_2 : decode cX7_mark 2 = .ok (.invokevirtual 111, 3) := by decide +kernel
theorem dX7_mark_5 : decode cX7_mark 5 = .ok (.ifCond .eq 13, 3) := by decide +kernel
theorem dX7_mark_8 : decode cX7_mark 8 = .ok (.iload_n 2, 1) := by decide +kernel
theorem dX7_mark_9 : decode cX7_mark 9 = .ok (.i2l, 1) := by decide +kernel
theorem dX7_mark_10 : decode cX7_mark 10 = .ok (.lconst 0, 1) := by decide +kernel
theorem dX7_mark_11 : decode cX7_mark 11 = .ok (.lconst 1, 1) := by decide +kernel
theorem dX7_mark_12 : decode cX7_mark 12 = .ok (.invokestatic 102, 3) := by decide +kernel
theorem dX7_mark_15 : decode cX7_mark 15 = .ok (.ifCond .ne 5, 3) := by decide +kernel
theorem dX7_mark_18 : decode cX7_mark 18 = .ok (.iconst (-1), 1) := by decide +kernel
theorem dX7_mark_19 : decode cX7_mark 19 = .ok (.ireturn, 1) := by decide +kernel
theorem dX7_mark_20 : decode cX7_mark 20 = .ok (.aload_n 0, 1) := by decide +kernel
theorem dX7_mark_21 : decode cX7_mark 21 = .ok (.iload_n 1, 1) := by decide +kernel
theorem dX7_mark_22 : decode cX7_mark 22 = .ok (.invokevirtual 275, 3) := by decide +kernel
theorem dX7_mark_25 : decode cX7_mark 25 = .ok (.aload_n 0, 1) := by decide +kernel
theorem dX7_mark_26 : decode cX7_mark 26 = .ok (.getfield 265, 3) := by decide +kernel
theorem dX7_mark_29 : decode cX7_mark 29 = .ok (.ifCond .ne 8, 3) := by decide +kernel
theorem dX7_mark_32 : decode cX7_mark 32 = .ok (.bipush (-4), 2) := by decide +kernel
theorem dX7_mark_34 : decode cX7_mark 34 = .ok (.goto 12, 3) := by decide +kernel
theorem dX7_mark_37 : decode cX7_mark 37 = .ok (.aload_n 0, 1) := by decide +kernel
theorem dX7_mark_38 : decode cX7_mark 38 = .ok (.aload_n 0, 1) := by decide +kernel
theorem dX7_mark_39 : decode cX7_mark 39 = .ok (.getfield 268, 3) := by decide +kernel
theorem dX7_mark_42 : decode cX7_mark 42 = .ok (.iload_n 2, 1) := by decide +kernel
theorem dX7_mark_43 : decode cX7_mark 43 = .ok (.invokevirtual 279, 3) := by decide +kernel
theorem dX7_mark_46 : decode cX7_mark 46 = .ok (.ireturn, 1) := by decide +kernel
theorem dX7_moved_0 : decode cX7_moved 0 = .ok (.iconst 0, 1) := by decide +kernel
theorem dX7_moved_1 : decode cX7_moved 1 = .ok (.istore_n 3, 1) := by decide +kernel
theorem dX7_moved_2 : decode cX7_moved 2 = .ok (.iconst 0, 1) := by decide +kernel
theorem dX7_moved_3 : decode cX7_moved 3 = .ok (.istore 4, 2) := by decide +kernel
theorem dX7_moved_5 : decode cX7_moved 5 = .ok (.iconst 0, 1) := by decide +kernel
theorem dX7_moved_6 : decode cX7_moved 6 = .ok (.istore 5, 2) := by decide +kernel
theorem dX7_moved_8 : decode cX7_moved 8 = .ok (.iload 5, 2) := by decide +kernel
theorem dX7_moved_10 : decode cX7_moved 10 = .ok (.iload_n 1, 1) := by decide +kernel
theorem dX7_moved_11 : decode cX7_moved 11 = .ok (.if_icmp .ge 142, 3) := by decide +kernel
theorem dX7_moved_14 : decode cX7_moved 14 = .ok (.iload 5, 2) := by decide +kernel
theorem dX7_moved_16 : decode cX7_moved 16 = .ok (.aload_n 0, 1) := by decide +kernel
theorem dX7_moved_17 : decode cX7_moved 17 = .ok (.getfield 262, 3) := by decide +kernel
theorem dX7_moved_20 : decode cX7_moved 20 = .ok (.if_icmp .ge 133, 3) := by decide +kernel
theorem dX7_moved_23 : decode cX7_moved 23 = .ok (.bipush (-4), 2) := by decide +kernel
theorem dX7_moved_25 : decode cX7_moved 25 = .ok (.istore 6, 2) := by decide +kernel
theorem dX7_moved_27 : decode cX7_moved 27 = .ok (.iconst (-1), 1) := by decide +kernel
theorem dX7_moved_28 : decode cX7_moved 28 = .ok (.istore 7, 2) := by decide +kernel
theorem dX7_moved_30 : decode cX7_moved 30 = .ok (.iconst 0, 1) := by decide +kernel
theorem dX7_moved_31 : decode cX7_moved 31 = .ok (.istore 8, 2) := by decide +kernel
theorem dX7_moved_33 : decode cX7_moved 33 = .ok (.iload 8, 2) := by decide +kernel
theorem dX7_moved_35 : decode cX7_moved 35 = .ok (.aload_n 0, 1) := by decide +kernel
theorem dX7_moved_36 : decode cX7_moved 36 = .ok (.getfield 262, 3) := by decide +kernel
theorem dX7_moved_39 : decode cX7_moved 39 = .ok (.if_icmp .ge 94, 3) := by decide +kernel
theorem dX7_moved_42 : decode cX7_moved 42 = .ok (.aload_n 0, 1) := by decide +kernel
theorem dX7_moved_43 : decode cX7_moved 43 = .ok (.getfield 77, 3) := by decide +kernel
theorem dX7_moved_46 : decode cX7_moved 46 = .ok (.iload 8, 2) := by decide +kernel
theorem dX7_moved_48 : decode cX7_moved 48 = .ok (.iaload, 1) := by decide +kernel
theorem dX7_moved_49 : decode cX7_moved 49 = .ok (.iload_n 2, 1) := by decide +kernel
theorem dX7_moved_50 : decode cX7_moved 50 = .ok (.ifCond .eq 13, 3) := by decide +kernel
theorem dX7_moved_53 : decode cX7_moved 53 = .ok (.aload_n 0, 1) := by decide +kernel
theorem dX7_moved_54 : decode cX7_moved 54 = .ok (.getfield 80, 3) := by decide +kernel
theorem dX7_moved_57 : decode cX7_moved 57 = .ok (.iload 8, 2) := by decide +kernel
theorem dX7_moved_59 : decode cX7_moved 59 = .ok (.iaload, 1) := by decide +kernel
theorem dX7_moved_60 : decode cX7_moved 60 = .ok (.goto 13, 3) := by decide +kernel
theorem dX7_moved_63 : decode cX7_moved 63 = .ok (.bipush 10, 2) := by decide +kernel
theorem dX7_moved_65 : decode cX7_moved 65 = .ok (.aload_n 0, 1) := by decide +kernel
theorem dX7_moved_66 : decode cX7_moved 66 = .ok (.getfield 80, 3) := by decide +kernel
theorem dX7_moved_69 : decode cX7_moved 69 = .ok (.iload 8, 2) := by decide +kernel
theorem dX7_moved_71 : decode cX7_moved 71 = .ok (.iaload, 1) := by decide +kernel
theorem dX7_moved_72 : decode cX7_moved 72 = .ok (.isub, 1) := by decide +kernel
theorem dX7_moved_73 : decode cX7_moved 73 = .ok (.imul, 1) := by decide +kernel
theorem dX7_moved_74 : decode cX7_moved 74 = .ok (.istore 9, 2) := by decide +kernel
theorem dX7_moved_76 : decode cX7_moved 76 = .ok (.iload_n 3, 1) := by decide +kernel
theorem dX7_moved_77 : decode cX7_moved 77 = .ok (.iload 8, 2) := by decide +kernel
theorem dX7_moved_79 : decode cX7_moved 79 = .ok (.ishr, 1) := by decide +kernel
theorem dX7_moved_80 : decode cX7_moved 80 = .ok (.iconst 1, 1) := by decide +kernel
theorem dX7_moved_81 : decode cX7_moved 81 = .ok (.iand, 1) := by decide +kernel
theorem dX7_moved_82 : decode cX7_moved 82 = .ok (.ifCond .ne 14, 3) := by decide +kernel
theorem dX7_moved_85 : decode cX7_moved 85 = .ok (.iload 9, 2) := by decide +kernel
theorem dX7_moved_87 : decode cX7_moved 87 = .ok (.iload 7, 2) := by decide +kernel
theorem dX7_moved_89 : decode cX7_moved 89 = .ok (.if_icmp .le 7, 3) := by decide +kernel
theorem dX7_moved_92 : decode cX7_moved 92 = .ok (.iconst 1, 1) := by decide +kernel
theorem dX7_moved_93 : decode cX7_moved 93 = .ok (.goto 4, 3) := by decide +kernel
theorem dX7_moved_96 : decode cX7_moved 96 = .ok (.iconst 0, 1) := by decide +kernel
theorem dX7_moved_97 : decode cX7_moved 97 = .ok (.istore 10, 2) := by decide +kernel
theorem dX7_moved_99 : decode cX7_moved 99 = .ok (.iload 10, 2) := by decide +kernel
theorem dX7_moved_101 : decode cX7_moved 101 = .ok (.ifCond .eq 8, 3) := by decide +kernel
theorem dX7_moved_104 : decode cX7_moved 104 = .ok (.iload 8, 2) := by decide +kernel
theorem dX7_moved_106 : decode cX7_moved 106 = .ok (.goto 5, 3) := by decide +kernel
theorem dX7_moved_109 : decode cX7_moved 109 = .ok (.iload 6, 2) := by decide +kernel
theorem dX7_moved_111 : decode cX7_moved 111 = .ok (.istore 6, 2) := by decide +kernel
theorem dX7_moved_113 : decode cX7_moved 113 = .ok (.iload 10, 2) := by decide +kernel
theorem dX7_moved_115 : decode cX7_moved 115 = .ok (.ifCond .eq 8, 3) := by decide +kernel
theorem dX7_moved_118 : decode cX7_moved 118 = .ok (.iload 9, 2) := by decide +kernel
theorem dX7_moved_120 : decode cX7_moved 120 = .ok (.goto 5, 3) := by decide +kernel
theorem dX7_moved_123 : decode cX7_moved 123 = .ok (.iload 7, 2) := by decide +kernel
theorem dX7_moved_125 : decode cX7_moved 125 = .ok (.istore 7, 2) := by decide +kernel
theorem dX7_moved_127 : decode cX7_moved 127 = .ok (.iinc 8 1, 3) := by decide +kernel
theorem dX7_moved_130 : decode cX7_moved 130 = .ok (.goto (-97), 3) := by decide +kernel
theorem dX7_moved_133 : decode cX7_moved 133 = .ok (.iload_n 3, 1) := by decide +kernel
theorem dX7_moved_134 : decode cX7_moved 134 = .ok (.iconst 1, 1) := by decide +kernel
theorem dX7_moved_135 : decode cX7_moved 135 = .ok (.iload 6, 2) := by decide +kernel
theorem dX7_moved_137 : decode cX7_moved 137 = .ok (.ishl, 1) := by decide +kernel
theorem dX7_moved_138 : decode cX7_moved 138 = .ok (.ior, 1) := by decide +kernel
theorem dX7_moved_139 : decode cX7_moved 139 = .ok (.istore_n 3, 1) := by decide +kernel
theorem dX7_moved_140 : decode cX7_moved 140 = .ok (.iload 4, 2) := by decide +kernel
theorem dX7_moved_142 : decode cX7_moved 142 = .ok (.iload 7, 2) := by decide +kernel
theorem dX7_moved_144 : decode cX7_moved 144 = .ok (.iadd, 1) := by decide +kernel
theorem dX7_moved_145 : decode cX7_moved 145 = .ok (.istore 4, 2) := by decide +kernel
theorem dX7_moved_147 : decode cX7_moved 147 = .ok (.iinc 5 1, 3) := by decide +kernel
theorem dX7_moved_150 : decode cX7_moved 150 = .ok (.goto (-142), 3) := by decide +kernel
theorem dX7_moved_153 : decode cX7_moved 153 = .ok (.iload 4, 2) := by decide +kernel
theorem dX7_moved_155 : decode cX7_moved 155 = .ok (.ireturn, 1) := by decide +kernel
theorem dX7_span_0 : decode cX7_span 0 = .ok (.aload_n 0, 1) := by decide +kernel
theorem dX7_span_1 : decode cX7_span 1 = .ok (.iload_n 1, 1) := by decide +kernel
theorem dX7_span_2 : decode cX7_span 2 = .ok (.invokevirtual 111, 3) := by decide +kernel
theorem dX7_span_5 : decode cX7_span 5 = .ok (.ifCond .eq 27, 3) := by decide +kernel
theorem dX7_span_8 : decode cX7_span 8 = .ok (.iload_n 2, 1) := by decide +kernel
theorem dX7_span_9 : decode cX7_span 9 = .ok (.i2l, 1) := by decide +kernel
theorem dX7_span_10 : decode cX7_span 10 = .ok (.lconst 0, 1) := by decide +kernel
theorem dX7_span_11 : decode cX7_span 11 = .ok (.ldc2_w 119, 3) := by decide +kernel
theorem dX7_span_14 : decode cX7_span 14 = .ok (.invokestatic 102, 3) := by decide +kernel
theorem dX7_span_17 : decode cX7_span 17 = .ok (.ifCond .eq 15, 3) := by decide +kernel
theorem dX7_span_20 : decode cX7_span 20 = .ok (.iload_n 3, 1) := by decide +kernel
theorem dX7_span_21 : decode cX7_span 21 = .ok (.i2l, 1) := by decide +kernel
theorem dX7_span_22 : decode cX7_span 22 = .ok (.lconst 0, 1) := by decide +kernel
theorem dX7_span_23 : decode cX7_span 23 = .ok (.ldc2_w 119, 3) := by decide +kernel
theorem dX7_span_26 : decode cX7_span 26 = .ok (.invokestatic 102, 3) := by decide +kernel
theorem dX7_span_29 : decode cX7_span 29 = .ok (.ifCond .ne 5, 3) := by decide +kernel
theorem dX7_span_32 : decode cX7_span 32 = .ok (.iconst (-1), 1) := by decide +kernel
theorem dX7_span_33 : decode cX7_span 33 = .ok (.ireturn, 1) := by decide +kernel
theorem dX7_span_34 : decode cX7_span 34 = .ok (.aload_n 0, 1) := by decide +kernel
theorem dX7_span_35 : decode cX7_span 35 = .ok (.iload_n 1, 1) := by decide +kernel
theorem dX7_span_36 : decode cX7_span 36 = .ok (.invokevirtual 275, 3) := by decide +kernel
theorem dX7_span_39 : decode cX7_span 39 = .ok (.aload_n 0, 1) := by decide +kernel
theorem dX7_span_40 : decode cX7_span 40 = .ok (.getfield 265, 3) := by decide +kernel
theorem dX7_span_43 : decode cX7_span 43 = .ok (.ifCond .ne 6, 3) := by decide +kernel
theorem dX7_span_46 : decode cX7_span 46 = .ok (.bipush (-4), 2) := by decide +kernel
theorem dX7_span_48 : decode cX7_span 48 = .ok (.ireturn, 1) := by decide +kernel
theorem dX7_span_49 : decode cX7_span 49 = .ok (.iload_n 3, 1) := by decide +kernel
theorem dX7_span_50 : decode cX7_span 50 = .ok (.iconst 2, 1) := by decide +kernel
theorem dX7_span_51 : decode cX7_span 51 = .ok (.if_icmp .ge 22, 3) := by decide +kernel
theorem dX7_span_54 : decode cX7_span 54 = .ok (.aload_n 0, 1) := by decide +kernel
theorem dX7_span_55 : decode cX7_span 55 = .ok (.aload_n 0, 1) := by decide +kernel
theorem dX7_span_56 : decode cX7_span 56 = .ok (.getfield 268, 3) := by decide +kernel
theorem dX7_span_59 : decode cX7_span 59 = .ok (.aload_n 0, 1) := by decide +kernel
theorem dX7_span_60 : decode cX7_span 60 = .ok (.iload_n 2, 1) := by decide +kernel
theorem dX7_span_61 : decode cX7_span 61 = .ok (.iconst 1, 1) := by decide +kernel
theorem dX7_span_62 : decode cX7_span 62 = .ok (.invokevirtual 282, 3) := by decide +kernel
theorem dX7_span_65 : decode cX7_span 65 = .ok (.isub, 1) := by decide +kernel
theorem dX7_span_66 : decode cX7_span 66 = .ok (.iload_n 3, 1) := by decide +kernel
theorem dX7_span_67 : decode cX7_span 67 = .ok (.invokevirtual 279, 3) := by decide +kernel
theorem dX7_span_70 : decode cX7_span 70 = .ok (.goto 19, 3) := by decide +kernel
theorem dX7_span_73 : decode cX7_span 73 = .ok (.aload_n 0, 1) := by decide +kernel
theorem dX7_span_74 : decode cX7_span 74 = .ok (.aload_n 0, 1) := by decide +kernel
theorem dX7_span_75 : decode cX7_span 75 = .ok (.getfield 268, 3) := by decide +kernel
theorem dX7_span_78 : decode cX7_span 78 = .ok (.aload_n 0, 1) := by decide +kernel
theorem dX7_span_79 : decode cX7_span 79 = .ok (.iload_n 2, 1) := by decide +kernel
theorem dX7_span_80 : decode cX7_span 80 = .ok (.iconst 0, 1) := by decide +kernel
theorem dX7_span_81 : decode cX7_span 81 = .ok (.invokevirtual 282, 3) := by decide +kernel
theorem dX7_span_84 : decode cX7_span 84 = .ok (.iadd, 1) := by decide +kernel
theorem dX7_span_85 : decode cX7_span 85 = .ok (.iload_n 3, 1) := by decide +kernel
theorem dX7_span_86 : decode cX7_span 86 = .ok (.invokevirtual 279, 3) := by decide +kernel
theorem dX7_span_89 : decode cX7_span 89 = .ok (.ireturn, 1) := by decide +kernel
theorem dX7_isGood_0 : decode cX7_isGood 0 = .ok (.aload_n 0, 1) := by decide +kernel
theorem dX7_isGood_1 : decode cX7_isGood 1 = .ok (.getfield 71, 3) := by decide +kernel
theorem dX7_isGood_4 : decode cX7_isGood 4 = .ok (.iload_n 1, 1) := by decide +kernel
theorem dX7_isGood_5 : decode cX7_isGood 5 = .ok (.iaload, 1) := by decide +kernel
theorem dX7_isGood_6 : decode cX7_isGood 6 = .ok (.aload_n 0, 1) := by decide +kernel
theorem dX7_isGood_7 : decode cX7_isGood 7 = .ok (.getfield 41, 3) := by decide +kernel
theorem dX7_isGood_10 : decode cX7_isGood 10 = .ok (.bipush 9, 2) := by decide +kernel
theorem dX7_isGood_12 : decode cX7_isGood 12 = .ok (.iaload, 1) := by decide +kernel
theorem dX7_isGood_13 : decode cX7_isGood 13 = .ok (.if_icmp .lt 7, 3) := by decide +kernel
theorem dX7_isGood_16 : decode cX7_isGood 16 = .ok (.iconst 1, 1) := by decide +kernel
theorem dX7_isGood_17 : decode cX7_isGood 17 = .ok (.goto 4, 3) := by decide +kernel
theorem dX7_isGood_20 : decode cX7_isGood 20 = .ok (.iconst 0, 1) := by decide +kernel
theorem dX7_isGood_21 : decode cX7_isGood 21 = .ok (.ireturn, 1) := by decide +kernel
theorem dX7_isBetween_0 : decode cX7_isBetween 0 = .ok (.iload_n 2, 1) := by decide +kernel
theorem dX7_isBetween_1 : decode cX7_isBetween 1 = .ok (.aload_n 0, 1) := by decide +kernel
theorem dX7_isBetween_2 : decode cX7_isBetween 2 = .ok (.getfield 62, 3) := by decide +kernel
theorem dX7_isBetween_5 : decode cX7_isBetween 5 = .ok (.iload_n 1, 1) := by decide +kernel
theorem dX7_isBetween_6 : decode cX7_isBetween 6 = .ok (.iaload, 1) := by decide +kernel
theorem dX7_isBetween_7 : decode cX7_isBetween 7 = .ok (.ishr, 1) := by decide +kernel
theorem dX7_isBetween_8 : decode cX7_isBetween 8 = .ok (.iload_n 2, 1) := by decide +kernel
theorem dX7_isBetween_9 : decode cX7_isBetween 9 = .ok (.aload_n 0, 1) := by decide +kernel
theorem dX7_isBetween_10 : decode cX7_isBetween 10 = .ok (.getfield 65, 3) := by decide +kernel
theorem dX7_isBetween_13 : decode cX7_isBetween 13 = .ok (.iload_n 1, 1) := by decide +kernel
theorem dX7_isBetween_14 : decode cX7_isBetween 14 = .ok (.iaload, 1) := by decide +kernel
theorem dX7_isBetween_15 : decode cX7_isBetween 15 = .ok (.ishr, 1) := by decide +kernel
theorem dX7_isBetween_16 : decode cX7_isBetween 16 = .ok (.iand, 1) := by decide +kernel
theorem dX7_isBetween_17 : decode cX7_isBetween 17 = .ok (.iconst 1, 1) := by decide +kernel
theorem dX7_isBetween_18 : decode cX7_isBetween 18 = .ok (.iand, 1) := by decide +kernel
theorem dX7_isBetween_19 : decode cX7_isBetween 19 = .ok (.iconst 1, 1) := by decide +kernel
theorem dX7_isBetween_20 : decode cX7_isBetween 20 = .ok (.if_icmp .ne 7, 3) := by decide +kernel
theorem dX7_isBetween_23 : decode cX7_isBetween 23 = .ok (.iconst 1, 1) := by decide +kernel
theorem dX7_isBetween_24 : decode cX7_isBetween 24 = .ok (.goto 4, 3) := by decide +kernel
theorem dX7_isBetween_27 : decode cX7_isBetween 27 = .ok (.iconst 0, 1) := by decide +kernel
theorem dX7_isBetween_28 : decode cX7_isBetween 28 = .ok (.ireturn, 1) := by decide +kernel
theorem dX7_ringOf_0 : decode cX7_ringOf 0 = .ok (.iconst 0, 1) := by decide +kernel
theorem dX7_ringOf_1 : decode cX7_ringOf 1 = .ok (.istore_n 3, 1) := by decide +kernel
theorem dX7_ringOf_2 : decode cX7_ringOf 2 = .ok (.iconst 0, 1) := by decide +kernel
theorem dX7_ringOf_3 : decode cX7_ringOf 3 = .ok (.istore 4, 2) := by decide +kernel
theorem dX7_ringOf_5 : decode cX7_ringOf 5 = .ok (.iload 4, 2) := by decide +kernel
theorem dX7_ringOf_7 : decode cX7_ringOf 7 = .ok (.aload_n 0, 1) := by decide +kernel
theorem dX7_ringOf_8 : decode cX7_ringOf 8 = .ok (.getfield 235, 3) := by decide +kernel
theorem dX7_ringOf_11 : decode cX7_ringOf 11 = .ok (.if_icmp .ge 86, 3) := by decide +kernel
theorem dX7_ringOf_14 : decode cX7_ringOf 14 = .ok (.iload_n 2, 1) := by decide +kernel
theorem dX7_ringOf_15 : decode cX7_ringOf 15 = .ok (.ifCond .eq 56, 3) := by decide +kernel
theorem dX7_ringOf_18 : decode cX7_ringOf 18 = .ok (.iload_n 2, 1) := by decide +kernel
theorem dX7_ringOf_19 : decode cX7_ringOf 19 = .ok (.iconst 1, 1) := by decide +kernel
theorem dX7_ringOf_20 : decode cX7_ringOf 20 = .ok (.if_icmp .ne 13, 3) := by decide +kernel
theorem dX7_ringOf_23 : decode cX7_ringOf 23 = .ok (.aload_n 0, 1) := by decide +kernel
theorem dX7_ringOf_24 : decode cX7_ringOf 24 = .ok (.iload 4, 2) := by decide +kernel
theorem dX7_ringOf_26 : decode cX7_ringOf 26 = .ok (.iload_n 1, 1) := by decide +kernel
theorem dX7_ringOf_27 : decode cX7_ringOf 27 = .ok (.invokevirtual 286, 3) := by decide +kernel
theorem dX7_ringOf_30 : decode cX7_ringOf 30 = .ok (.ifCond .ne 41, 3) := by decide +kernel
theorem dX7_ringOf_33 : decode cX7_ringOf 33 = .ok (.iload_n 2, 1) := by decide +kernel
theorem dX7_ringOf_34 : decode cX7_ringOf 34 = .ok (.iconst 2, 1) := by decide +kernel
theorem dX7_ringOf_35 : decode cX7_ringOf 35 = .ok (.if_icmp .ne 12, 3) := by decide +kernel
theorem dX7_ringOf_38 : decode cX7_ringOf 38 = .ok (.aload_n 0, 1) := by decide +kernel
theorem dX7_ringOf_39 : decode cX7_ringOf 39 = .ok (.iload 4, 2) := by decide +kernel
theorem dX7_ringOf_41 : decode cX7_ringOf 41 = .ok (.invokevirtual 290, 3) := by decide +kernel
theorem dX7_ringOf_44 : decode cX7_ringOf 44 = .ok (.ifCond .ne 27, 3) := by decide +kernel
theorem dX7_ringOf_47 : decode cX7_ringOf 47 = .ok (.iload_n 2, 1) := by decide +kernel
theorem dX7_ringOf_48 : decode cX7_ringOf 48 = .ok (.iconst 3, 1) := by decide +kernel
theorem dX7_ringOf_49 : decode cX7_ringOf 49 = .ok (.if_icmp .ne 26, 3) := by decide +kernel
theorem dX7_ringOf_52 : decode cX7_ringOf 52 = .ok (.aload_n 0, 1) := by decide +kernel
theorem dX7_ringOf_53 : decode cX7_ringOf 53 = .ok (.iload 4, 2) := by decide +kernel
theorem dX7_ringOf_55 : decode cX7_ringOf 55 = .ok (.invokevirtual 290, 3) := by decide +kernel
theorem dX7_ringOf_58 : decode cX7_ringOf 58 = .ok (.ifCond .eq 17, 3) := by decide +kernel
theorem dX7_ringOf_61 : decode cX7_ringOf 61 = .ok (.aload_n 0, 1) := by decide +kernel
theorem dX7_ringOf_62 : decode cX7_ringOf 62 = .ok (.iload 4, 2) := by decide +kernel
theorem dX7_ringOf_64 : decode cX7_ringOf 64 = .ok (.iload_n 1, 1) := by decide +kernel
theorem dX7_ringOf_65 : decode cX7_ringOf 65 = .ok (.invokevirtual 286, 3) := by decide +kernel
theorem dX7_ringOf_68 : decode cX7_ringOf 68 = .ok (.ifCond .eq 7, 3) := by decide +kernel
theorem dX7_ringOf_71 : decode cX7_ringOf 71 = .ok (.iconst 1, 1) := by decide +kernel
theorem dX7_ringOf_72 : decode cX7_ringOf 72 = .ok (.goto 4, 3) := by decide +kernel
theorem dX7_ringOf_75 : decode cX7_ringOf 75 = .ok (.iconst 0, 1) := by decide +kernel
theorem dX7_ringOf_76 : decode cX7_ringOf 76 = .ok (.istore 5, 2) := by decide +kernel
theorem dX7_ringOf_78 : decode cX7_ringOf 78 = .ok (.iload_n 3, 1) := by decide +kernel
theorem dX7_ringOf_79 : decode cX7_ringOf 79 = .ok (.iload 5, 2) := by decide +kernel
theorem dX7_ringOf_81 : decode cX7_ringOf 81 = .ok (.ifCond .eq 7, 3) := by decide +kernel
theorem dX7_ringOf_84 : decode cX7_ringOf 84 = .ok (.iconst 1, 1) := by decide +kernel
theorem dX7_ringOf_85 : decode cX7_ringOf 85 = .ok (.goto 4, 3) := by decide +kernel
theorem dX7_ringOf_88 : decode cX7_ringOf 88 = .ok (.iconst 0, 1) := by decide +kernel
theorem dX7_ringOf_89 : decode cX7_ringOf 89 = .ok (.iadd, 1) := by decide +kernel
theorem dX7_ringOf_90 : decode cX7_ringOf 90 = .ok (.istore_n 3, 1) := by decide +kernel
theorem dX7_ringOf_91 : decode cX7_ringOf 91 = .ok (.iinc 4 1, 3) := by decide +kernel
theorem dX7_ringOf_94 : decode cX7_ringOf 94 = .ok (.goto (-89), 3) := by decide +kernel
theorem dX7_ringOf_97 : decode cX7_ringOf 97 = .ok (.iload_n 3, 1) := by decide +kernel
theorem dX7_ringOf_98 : decode cX7_ringOf 98 = .ok (.ireturn, 1) := by decide +kernel
theorem dX7_ring_0 : decode cX7_ring 0 = .ok (.aload_n 0, 1) := by decide +kernel
theorem dX7_ring_1 : decode cX7_ring 1 = .ok (.iload_n 1, 1) := by decide +kernel
theorem dX7_ring_2 : decode cX7_ring 2 = .ok (.invokevirtual 223, 3) := by decide +kernel
theorem dX7_ring_5 : decode cX7_ring 5 = .ok (.ifCond .eq 24, 3) := by decide +kernel
theorem dX7_ring_8 : decode cX7_ring 8 = .ok (.iload_n 2, 1) := by decide +kernel
theorem dX7_ring_9 : decode cX7_ring 9 = .ok (.i2l, 1) := by decide +kernel
theorem dX7_ring_10 : decode cX7_ring 10 = .ok (.lconst 0, 1) := by decide +kernel
theorem dX7_ring_11 : decode cX7_ring 11 = .ok (.ldc2_w 119, 3) := by decide +kernel
theorem dX7_ring_14 : decode cX7_ring 14 = .ok (.invokestatic 102, 3) := by decide +kernel
theorem dX7_ring_17 : decode cX7_ring 17 = .ok (.ifCond .eq 12, 3) := by decide +kernel
theorem dX7_ring_20 : decode cX7_ring 20 = .ok (.aload_n 0, 1) := by decide +kernel
theorem dX7_ring_21 : decode cX7_ring 21 = .ok (.iload_n 1, 1) := by decide +kernel
theorem dX7_ring_22 : decode cX7_ring 22 = .ok (.iload_n 2, 1) := by decide +kernel
theorem dX7_ring_23 : decode cX7_ring 23 = .ok (.invokevirtual 293, 3) := by decide +kernel
theorem dX7_ring_26 : decode cX7_ring 26 = .ok (.goto 4, 3) := by decide +kernel
theorem dX7_ring_29 : decode cX7_ring 29 = .ok (.iconst (-1), 1) := by decide +kernel
theorem dX7_ring_30 : decode cX7_ring 30 = .ok (.ireturn, 1) := by decide +kernel
theorem dX7_ways_0 : decode cX7_ways 0 = .ok (.iload_n 1, 1) := by decide +kernel
theorem dX7_ways_1 : decode cX7_ways 1 = .ok (.ifCond .lt 8, 3) := by decide +kernel
theorem dX7_ways_4 : decode cX7_ways 4 = .ok (.iload_n 1, 1) := by decide +kernel
theorem dX7_ways_5 : decode cX7_ways 5 = .ok (.iload_n 0, 1) := by decide +kernel
theorem dX7_ways_6 : decode cX7_ways 6 = .ok (.if_icmp .le 5, 3) := by decide +kernel
theorem dX7_ways_9 : decode cX7_ways 9 = .ok (.lconst 0, 1) := by decide +kernel
theorem dX7_ways_10 : decode cX7_ways 10 = .ok (.lreturn, 1) := by decide +kernel
theorem dX7_ways_11 : decode cX7_ways 11 = .ok (.lconst 1, 1) := by decide +kernel
theorem dX7_ways_12 : decode cX7_ways 12 = .ok (.lstore_n 2, 1) := by decide +kernel
theorem dX7_ways_13 : decode cX7_ways 13 = .ok (.iconst 1, 1) := by decide +kernel
theorem dX7_ways_14 : decode cX7_ways 14 = .ok (.istore 4, 2) := by decide +kernel
theorem dX7_ways_16 : decode cX7_ways 16 = .ok (.iload 4, 2) := by decide +kernel
theorem dX7_ways_18 : decode cX7_ways 18 = .ok (.iload_n 1, 1) := by decide +kernel
theorem dX7_ways_19 : decode cX7_ways 19 = .ok (.if_icmp .gt 23, 3) := by decide +kernel
theorem dX7_ways_22 : decode cX7_ways 22 = .ok (.lload_n 2, 1) := by decide +kernel
theorem dX7_ways_23 : decode cX7_ways 23 = .ok (.iload_n 0, 1) := by decide +kernel
theorem dX7_ways_24 : decode cX7_ways 24 = .ok (.iload_n 1, 1) := by decide +kernel
theorem dX7_ways_25 : decode cX7_ways 25 = .ok (.isub, 1) := by decide +kernel
theorem dX7_ways_26 : decode cX7_ways 26 = .ok (.iload 4, 2) := by decide +kernel
theorem dX7_ways_28 : decode cX7_ways 28 = .ok (.iadd, 1) := by decide +kernel
theorem dX7_ways_29 : decode cX7_ways 29 = .ok (.i2l, 1) := by decide +kernel
theorem dX7_ways_30 : decode cX7_ways 30 = .ok (.lmul, 1) := by decide +kernel
theorem dX7_ways_31 : decode cX7_ways 31 = .ok (.iload 4, 2) := by decide +kernel
theorem dX7_ways_33 : decode cX7_ways 33 = .ok (.i2l, 1) := by decide +kernel
theorem dX7_ways_34 : decode cX7_ways 34 = .ok (.ldiv, 1) := by decide +kernel
theorem dX7_ways_35 : decode cX7_ways 35 = .ok (.lstore_n 2, 1) := by decide +kernel
theorem dX7_ways_36 : decode cX7_ways 36 = .ok (.iinc 4 1, 3) := by decide +kernel
theorem dX7_ways_39 : decode cX7_ways 39 = .ok (.goto (-23), 3) := by decide +kernel
theorem dX7_ways_42 : decode cX7_ways 42 = .ok (.lload_n 2, 1) := by decide +kernel
theorem dX7_ways_43 : decode cX7_ways 43 = .ok (.lreturn, 1) := by decide +kernel
theorem dX7_findOdds_0 : decode cX7_findOdds 0 = .ok (.aload_n 0, 1) := by decide +kernel
theorem dX7_findOdds_1 : decode cX7_findOdds 1 = .ok (.iload_n 1, 1) := by decide +kernel
theorem dX7_findOdds_2 : decode cX7_findOdds 2 = .ok (.iconst 0, 1) := by decide +kernel
theorem dX7_findOdds_3 : decode cX7_findOdds 3 = .ok (.invokevirtual 293, 3) := by decide +kernel
theorem dX7_findOdds_6 : decode cX7_findOdds 6 = .ok (.istore_n 2, 1) := by decide +kernel
theorem dX7_findOdds_7 : decode cX7_findOdds 7 = .ok (.aload_n 0, 1) := by decide +kernel
theorem dX7_findOdds_8 : decode cX7_findOdds 8 = .ok (.iload_n 1, 1) := by decide +kernel
theorem dX7_findOdds_9 : decode cX7_findOdds 9 = .ok (.iconst 1, 1) := by decide +kernel
theorem dX7_findOdds_10 : decode cX7_findOdds 10 = .ok (.invokevirtual 293, 3) := by decide +kernel
theorem dX7_findOdds_13 : decode cX7_findOdds 13 = .ok (.istore_n 3, 1) := by decide +kernel
theorem dX7_findOdds_14 : decode cX7_findOdds 14 = .ok (.aload_n 0, 1) := by decide +kernel
theorem dX7_findOdds_15 : decode cX7_findOdds 15 = .ok (.iload_n 1, 1) := by decide +kernel
theorem dX7_findOdds_16 : decode cX7_findOdds 16 = .ok (.iconst 2, 1) := by decide +kernel
theorem dX7_findOdds_17 : decode cX7_findOdds 17 = .ok (.invokevirtual 293, 3) := by decide +kernel
theorem dX7_findOdds_20 : decode cX7_findOdds 20 = .ok (.istore 4, 2) := by decide +kernel
theorem dX7_findOdds_22 : decode cX7_findOdds 22 = .ok (.aload_n 0, 1) := by decide +kernel
theorem dX7_findOdds_23 : decode cX7_findOdds 23 = .ok (.iload_n 1, 1) := by decide +kernel
theorem dX7_findOdds_24 : decode cX7_findOdds 24 = .ok (.iconst 3, 1) := by decide +kernel
theorem dX7_findOdds_25 : decode cX7_findOdds 25 = .ok (.invokevirtual 293, 3) := by decide +kernel
theorem dX7_findOdds_28 : decode cX7_findOdds 28 = .ok (.istore 5, 2) := by decide +kernel
theorem dX7_findOdds_30 : decode cX7_findOdds 30 = .ok (.aload_n 0, 1) := by decide +kernel
theorem dX7_findOdds_31 : decode cX7_findOdds 31 = .ok (.lconst 0, 1) := by decide +kernel
theorem dX7_findOdds_32 : decode cX7_findOdds 32 = .ok (.putfield 296, 3) := by decide +kernel
theorem dX7_findOdds_35 : decode cX7_findOdds 35 = .ok (.aload_n 0, 1) := by decide +kernel
theorem dX7_findOdds_36 : decode cX7_findOdds 36 = .ok (.iload_n 2, 1) := by decide +kernel
theorem dX7_findOdds_37 : decode cX7_findOdds 37 = .ok (.iload 4, 2) := by decide +kernel
theorem dX7_findOdds_39 : decode cX7_findOdds 39 = .ok (.invokestatic 300, 3) := by decide +kernel
theorem dX7_findOdds_42 : decode cX7_findOdds 42 = .ok (.putfield 304, 3) := by decide +kernel
theorem dX7_findOdds_45 : decode cX7_findOdds 45 = .ok (.iload 5, 2) := by decide +kernel
theorem dX7_findOdds_47 : decode cX7_findOdds 47 = .ok (.istore 6, 2) := by decide +kernel
theorem dX7_findOdds_49 : decode cX7_findOdds 49 = .ok (.iload 6, 2) := by decide +kernel
theorem dX7_findOdds_51 : decode cX7_findOdds 51 = .ok (.iload_n 3, 1) := by decide +kernel
theorem dX7_findOdds_52 : decode cX7_findOdds 52 = .ok (.if_icmp .gt 36, 3) := by decide +kernel
theorem dX7_findOdds_55 : decode cX7_findOdds 55 = .ok (.aload_n 0, 1) := by decide +kernel
theorem dX7_findOdds_56 : decode cX7_findOdds 56 = .ok (.dup, 1) := by decide +kernel
theorem dX7_findOdds_57 : decode cX7_findOdds 57 = .ok (.getfield 296, 3) := by decide +kernel
theorem dX7_findOdds_60 : decode cX7_findOdds 60 = .ok (.iload_n 3, 1) := by decide +kernel
theorem dX7_findOdds_61 : decode cX7_findOdds 61 = .ok (.iload 6, 2) := by decide +kernel
theorem dX7_findOdds_63 : decode cX7_findOdds 63 = .ok (.invokestatic 300, 3) := by decide +kernel
theorem dX7_findOdds_66 : decode cX7_findOdds 66 = .ok (.iload_n 2, 1) := by decide +kernel
theorem dX7_findOdds_67 : decode cX7_findOdds 67 = .ok (.iload_n 3, 1) := by decide +kernel
theorem dX7_findOdds_68 : decode cX7_findOdds 68 = .ok (.isub, 1) := by decide +kernel
theorem dX7_findOdds_69 : decode cX7_findOdds 69 = .ok (.iload 4, 2) := by decide +kernel
theorem dX7_findOdds_71 : decode cX7_findOdds 71 = .ok (.iload 6, 2) := by decide +kernel
theorem dX7_findOdds_73 : decode cX7_findOdds 73 = .ok (.isub, 1) := by decide +kernel
theorem dX7_findOdds_74 : decode cX7_findOdds 74 = .ok (.invokestatic 300, 3) := by decide +kernel
theorem dX7_findOdds_77 : decode cX7_findOdds 77 = .ok (.lmul, 1) := by decide +kernel
theorem dX7_findOdds_78 : decode cX7_findOdds 78 = .ok (.ladd, 1) := by decide +kernel
theorem dX7_findOdds_79 : decode cX7_findOdds 79 = .ok (.putfield 296, 3) := by decide +kernel
theorem dX7_findOdds_82 : decode cX7_findOdds 82 = .ok (.iinc 6 1, 3) := by decide +kernel
theorem dX7_findOdds_85 : decode cX7_findOdds 85 = .ok (.goto (-36), 3) := by decide +kernel
theorem dX7_findOdds_88 : decode cX7_findOdds 88 = .ok (.aload_n 0, 1) := by decide +kernel
theorem dX7_findOdds_89 : decode cX7_findOdds 89 = .ok (.getfield 296, 3) := by decide +kernel
theorem dX7_findOdds_92 : decode cX7_findOdds 92 = .ok (.aload_n 0, 1) := by decide +kernel
theorem dX7_findOdds_93 : decode cX7_findOdds 93 = .ok (.getfield 304, 3) := by decide +kernel
theorem dX7_findOdds_96 : decode cX7_findOdds 96 = .ok (.invokestatic 271, 3) := by decide +kernel
theorem dX7_findOdds_99 : decode cX7_findOdds 99 = .ok (.lstore 6, 2) := by decide +kernel
theorem dX7_findOdds_101 : decode cX7_findOdds 101 = .ok (.aload_n 0, 1) := by decide +kernel
theorem dX7_findOdds_102 : decode cX7_findOdds 102 = .ok (.dup, 1) := by decide +kernel
theorem dX7_findOdds_103 : decode cX7_findOdds 103 = .ok (.getfield 296, 3) := by decide +kernel
theorem dX7_findOdds_106 : decode cX7_findOdds 106 = .ok (.lload 6, 2) := by decide +kernel
theorem dX7_findOdds_108 : decode cX7_findOdds 108 = .ok (.ldiv, 1) := by decide +kernel
theorem dX7_findOdds_109 : decode cX7_findOdds 109 = .ok (.putfield 296, 3) := by decide +kernel
theorem dX7_findOdds_112 : decode cX7_findOdds 112 = .ok (.aload_n 0, 1) := by decide +kernel
theorem dX7_findOdds_113 : decode cX7_findOdds 113 = .ok (.dup, 1) := by decide +kernel
theorem dX7_findOdds_114 : decode cX7_findOdds 114 = .ok (.getfield 304, 3) := by decide +kernel
theorem dX7_findOdds_117 : decode cX7_findOdds 117 = .ok (.lload 6, 2) := by decide +kernel
theorem dX7_findOdds_119 : decode cX7_findOdds 119 = .ok (.ldiv, 1) := by decide +kernel
theorem dX7_findOdds_120 : decode cX7_findOdds 120 = .ok (.putfield 304, 3) := by decide +kernel
theorem dX7_findOdds_123 : decode cX7_findOdds 123 = .ok (.return_, 1) := by decide +kernel
theorem dX7_odds_0 : decode cX7_odds 0 = .ok (.aload_n 0, 1) := by decide +kernel
theorem dX7_odds_1 : decode cX7_odds 1 = .ok (.iload_n 1, 1) := by decide +kernel
theorem dX7_odds_2 : decode cX7_odds 2 = .ok (.invokevirtual 223, 3) := by decide +kernel
theorem dX7_odds_5 : decode cX7_odds 5 = .ok (.ifCond .eq 13, 3) := by decide +kernel
theorem dX7_odds_8 : decode cX7_odds 8 = .ok (.iload_n 2, 1) := by decide +kernel
theorem dX7_odds_9 : decode cX7_odds 9 = .ok (.i2l, 1) := by decide +kernel
theorem dX7_odds_10 : decode cX7_odds 10 = .ok (.lconst 0, 1) := by decide +kernel
theorem dX7_odds_11 : decode cX7_odds 11 = .ok (.lconst 1, 1) := by decide +kernel
theorem dX7_odds_12 : decode cX7_odds 12 = .ok (.invokestatic 102, 3) := by decide +kernel
theorem dX7_odds_15 : decode cX7_odds 15 = .ok (.ifCond .ne 7, 3) := by decide +kernel
theorem dX7_odds_18 : decode cX7_odds 18 = .ok (.ldc2_w 307, 3) := by decide +kernel
theorem dX7_odds_21 : decode cX7_odds 21 = .ok (.lreturn, 1) := by decide +kernel
theorem dX7_odds_22 : decode cX7_odds 22 = .ok (.aload_n 0, 1) := by decide +kernel
theorem dX7_odds_23 : decode cX7_odds 23 = .ok (.iload_n 1, 1) := by decide +kernel
theorem dX7_odds_24 : decode cX7_odds 24 = .ok (.invokevirtual 309, 3) := by decide +kernel
theorem dX7_odds_27 : decode cX7_odds 27 = .ok (.iload_n 2, 1) := by decide +kernel
theorem dX7_odds_28 : decode cX7_odds 28 = .ok (.ifCond .ne 10, 3) := by decide +kernel
theorem dX7_odds_31 : decode cX7_odds 31 = .ok (.aload_n 0, 1) := by decide +kernel
theorem dX7_odds_32 : decode cX7_odds 32 = .ok (.getfield 296, 3) := by decide +kernel
theorem dX7_odds_35 : decode cX7_odds 35 = .ok (.goto 7, 3) := by decide +kernel
theorem dX7_odds_38 : decode cX7_odds 38 = .ok (.aload_n 0, 1) := by decide +kernel
theorem dX7_odds_39 : decode cX7_odds 39 = .ok (.getfield 304, 3) := by decide +kernel
theorem dX7_odds_42 : decode cX7_odds 42 = .ok (.lreturn, 1) := by decide +kernel
theorem dX7_oddest_0 : decode cX7_oddest 0 = .ok (.iload_n 1, 1) := by decide +kernel
theorem dX7_oddest_1 : decode cX7_oddest 1 = .ok (.i2l, 1) := by decide +kernel
theorem dX7_oddest_2 : decode cX7_oddest 2 = .ok (.lconst 0, 1) := by decide +kernel
theorem dX7_oddest_3 : decode cX7_oddest 3 = .ok (.ldc2_w 226, 3) := by decide +kernel
theorem dX7_oddest_6 : decode cX7_oddest 6 = .ok (.invokestatic 102, 3) := by decide +kernel
theorem dX7_oddest_9 : decode cX7_oddest 9 = .ok (.ifCond .ne 7, 3) := by decide +kernel
theorem dX7_oddest_12 : decode cX7_oddest 12 = .ok (.ldc2_w 307, 3) := by decide +kernel
theorem dX7_oddest_15 : decode cX7_oddest 15 = .ok (.lreturn, 1) := by decide +kernel
theorem dX7_oddest_16 : decode cX7_oddest 16 = .ok (.lconst 1, 1) := by decide +kernel
theorem dX7_oddest_17 : decode cX7_oddest 17 = .ok (.lstore_n 2, 1) := by decide +kernel
theorem dX7_oddest_18 : decode cX7_oddest 18 = .ok (.lconst 1, 1) := by decide +kernel
theorem dX7_oddest_19 : decode cX7_oddest 19 = .ok (.lstore 4, 2) := by decide +kernel
theorem dX7_oddest_21 : decode cX7_oddest 21 = .ok (.bipush (-4), 2) := by decide +kernel
theorem dX7_oddest_23 : decode cX7_oddest 23 = .ok (.istore 6, 2) := by decide +kernel
theorem dX7_oddest_25 : decode cX7_oddest 25 = .ok (.iconst 0, 1) := by decide +kernel
theorem dX7_oddest_26 : decode cX7_oddest 26 = .ok (.istore 7, 2) := by decide +kernel
theorem dX7_oddest_28 : decode cX7_oddest 28 = .ok (.iload 7, 2) := by decide +kernel
theorem dX7_oddest_30 : decode cX7_oddest 30 = .ok (.iconst 1, 1) := by decide +kernel
theorem dX7_oddest_31 : decode cX7_oddest 31 = .ok (.aload_n 0, 1) := by decide +kernel
theorem dX7_oddest_32 : decode cX7_oddest 32 = .ok (.getfield 98, 3) := by decide +kernel
theorem dX7_oddest_35 : decode cX7_oddest 35 = .ok (.ishl, 1) := by decide +kernel
theorem dX7_oddest_36 : decode cX7_oddest 36 = .ok (.if_icmp .ge 65, 3) := by decide +kernel
theorem dX7_oddest_39 : decode cX7_oddest 39 = .ok (.iload 7, 2) := by decide +kernel
theorem dX7_oddest_41 : decode cX7_oddest 41 = .ok (.invokestatic 144, 3) := by decide +kernel
theorem dX7_oddest_44 : decode cX7_oddest 44 = .ok (.iconst 3, 1) := by decide +kernel
theorem dX7_oddest_45 : decode cX7_oddest 45 = .ok (.if_icmp .eq 12, 3) := by decide +kernel
theorem dX7_oddest_48 : decode cX7_oddest 48 = .ok (.iload 7, 2) := by decide +kernel
theorem dX7_oddest_50 : decode cX7_oddest 50 = .ok (.invokestatic 144, 3) := by decide +kernel
theorem dX7_oddest_53 : decode cX7_oddest 53 = .ok (.iconst 4, 1) := by decide +kernel
theorem dX7_oddest_54 : decode cX7_oddest 54 = .ok (.if_icmp .ne 41, 3) := by decide +kernel
theorem dX7_oddest_57 : decode cX7_oddest 57 = .ok (.aload_n 0, 1) := by decide +kernel
theorem dX7_oddest_58 : decode cX7_oddest 58 = .ok (.iload 7, 2) := by decide +kernel
theorem dX7_oddest_60 : decode cX7_oddest 60 = .ok (.invokevirtual 309, 3) := by decide +kernel
theorem dX7_oddest_63 : decode cX7_oddest 63 = .ok (.aload_n 0, 1) := by decide +kernel
theorem dX7_oddest_64 : decode cX7_oddest 64 = .ok (.getfield 296, 3) := by decide +kernel
theorem dX7_oddest_67 : decode cX7_oddest 67 = .ok (.lload 4, 2) := by decide +kernel
theorem dX7_oddest_69 : decode cX7_oddest 69 = .ok (.lmul, 1) := by decide +kernel
theorem dX7_oddest_70 : decode cX7_oddest 70 = .ok (.lload_n 2, 1) := by decide +kernel
theorem dX7_oddest_71 : decode cX7_oddest 71 = .ok (.aload_n 0, 1) := by decide +kernel
theorem dX7_oddest_72 : decode cX7_oddest 72 = .ok (.getfield 304, 3) := by decide +kernel
theorem dX7_oddest_75 : decode cX7_oddest 75 = .ok (.lmul, 1) := by decide +kernel
theorem dX7_oddest_76 : decode cX7_oddest 76 = .ok (.lcmp, 1) := by decide +kernel
theorem dX7_oddest_77 : decode cX7_oddest 77 = .ok (.ifCond .ge 18, 3) := by decide +kernel
theorem dX7_oddest_80 : decode cX7_oddest 80 = .ok (.aload_n 0, 1) := by decide +kernel
theorem dX7_oddest_81 : decode cX7_oddest 81 = .ok (.getfield 296, 3) := by decide +kernel
theorem dX7_oddest_84 : decode cX7_oddest 84 = .ok (.lstore_n 2, 1) := by decide +kernel
theorem dX7_oddest_85 : decode cX7_oddest 85 = .ok (.aload_n 0, 1) := by decide +kernel
theorem dX7_oddest_86 : decode cX7_oddest 86 = .ok (.getfield 304, 3) := by decide +kernel
theorem dX7_oddest_89 : decode cX7_oddest 89 = .ok (.lstore 4, 2) := by decide +kernel
theorem dX7_oddest_91 : decode cX7_oddest 91 = .ok (.iload 7, 2) := by decide +kernel
theorem dX7_oddest_93 : decode cX7_oddest 93 = .ok (.istore 6, 2) := by decide +kernel
theorem dX7_oddest_95 : decode cX7_oddest 95 = .ok (.iinc 7 1, 3) := by decide +kernel
theorem dX7_oddest_98 : decode cX7_oddest 98 = .ok (.goto (-70), 3) := by decide +kernel
theorem dX7_oddest_101 : decode cX7_oddest 101 = .ok (.iload 6, 2) := by decide +kernel
theorem dX7_oddest_103 : decode cX7_oddest 103 = .ok (.bipush (-4), 2) := by decide +kernel
theorem dX7_oddest_105 : decode cX7_oddest 105 = .ok (.if_icmp .ne 9, 3) := by decide +kernel
theorem dX7_oddest_108 : decode cX7_oddest 108 = .ok (.ldc2_w 312, 3) := by decide +kernel
theorem dX7_oddest_111 : decode cX7_oddest 111 = .ok (.goto 24, 3) := by decide +kernel
theorem dX7_oddest_114 : decode cX7_oddest 114 = .ok (.iload_n 1, 1) := by decide +kernel
theorem dX7_oddest_115 : decode cX7_oddest 115 = .ok (.ifCond .ne 9, 3) := by decide +kernel
theorem dX7_oddest_118 : decode cX7_oddest 118 = .ok (.iload 6, 2) := by decide +kernel
theorem dX7_oddest_120 : decode cX7_oddest 120 = .ok (.i2l, 1) := by decide +kernel
theorem dX7_oddest_121 : decode cX7_oddest 121 = .ok (.goto 14, 3) := by decide +kernel
theorem dX7_oddest_124 : decode cX7_oddest 124 = .ok (.iload_n 1, 1) := by decide +kernel
theorem dX7_oddest_125 : decode cX7_oddest 125 = .ok (.iconst 1, 1) := by decide +kernel
theorem dX7_oddest_126 : decode cX7_oddest 126 = .ok (.if_icmp .ne 7, 3) := by decide +kernel
theorem dX7_oddest_129 : decode cX7_oddest 129 = .ok (.lload_n 2, 1) := by decide +kernel
theorem dX7_oddest_130 : decode cX7_oddest 130 = .ok (.goto 5, 3) := by decide +kernel
theorem dX7_oddest_133 : decode cX7_oddest 133 = .ok (.lload 4, 2) := by decide +kernel
theorem dX7_oddest_135 : decode cX7_oddest 135 = .ok (.lreturn, 1) := by decide +kernel
theorem dX7_sells_0 : decode cX7_sells 0 = .ok (.aload_n 0, 1) := by decide +kernel
theorem dX7_sells_1 : decode cX7_sells 1 = .ok (.getfield 7, 3) := by decide +kernel
theorem dX7_sells_4 : decode cX7_sells 4 = .ok (.iload_n 1, 1) := by decide +kernel
theorem dX7_sells_5 : decode cX7_sells 5 = .ok (.iaload, 1) := by decide +kernel
theorem dX7_sells_6 : decode cX7_sells 6 = .ok (.ifCond .le 16, 3) := by decide +kernel
theorem dX7_sells_9 : decode cX7_sells 9 = .ok (.aload_n 0, 1) := by decide +kernel
theorem dX7_sells_10 : decode cX7_sells 10 = .ok (.getfield 17, 3) := by decide +kernel
theorem dX7_sells_13 : decode cX7_sells 13 = .ok (.iload_n 1, 1) := by decide +kernel
theorem dX7_sells_14 : decode cX7_sells 14 = .ok (.baload, 1) := by decide +kernel
theorem dX7_sells_15 : decode cX7_sells 15 = .ok (.ifCond .ne 7, 3) := by decide +kernel
theorem dX7_sells_18 : decode cX7_sells 18 = .ok (.iconst 1, 1) := by decide +kernel
theorem dX7_sells_19 : decode cX7_sells 19 = .ok (.goto 4, 3) := by decide +kernel
theorem dX7_sells_22 : decode cX7_sells 22 = .ok (.iconst 0, 1) := by decide +kernel
theorem dX7_sells_23 : decode cX7_sells 23 = .ok (.ireturn, 1) := by decide +kernel
theorem dX7_gainOf_0 : decode cX7_gainOf 0 = .ok (.aload_n 0, 1) := by decide +kernel
theorem dX7_gainOf_1 : decode cX7_gainOf 1 = .ok (.invokevirtual 214, 3) := by decide +kernel
theorem dX7_gainOf_4 : decode cX7_gainOf 4 = .ok (.iconst 0, 1) := by decide +kernel
theorem dX7_gainOf_5 : decode cX7_gainOf 5 = .ok (.istore 4, 2) := by decide +kernel
theorem dX7_gainOf_7 : decode cX7_gainOf 7 = .ok (.iconst 0, 1) := by decide +kernel
theorem dX7_gainOf_8 : decode cX7_gainOf 8 = .ok (.istore 5, 2) := by decide +kernel
theorem dX7_gainOf_10 : decode cX7_gainOf 10 = .ok (.iload 5, 2) := by decide +kernel
theorem dX7_gainOf_12 : decode cX7_gainOf 12 = .ok (.aload_n 0, 1) := by decide +kernel
theorem dX7_gainOf_13 : decode cX7_gainOf 13 = .ok (.getfield 98, 3) := by decide +kernel
theorem dX7_gainOf_16 : decode cX7_gainOf 16 = .ok (.if_icmp .ge 80, 3) := by decide +kernel
theorem dX7_gainOf_19 : decode cX7_gainOf 19 = .ok (.iload_n 1, 1) := by decide +kernel
theorem dX7_gainOf_20 : decode cX7_gainOf 20 = .ok (.iload 5, 2) := by decide +kernel
theorem dX7_gainOf_22 : decode cX7_gainOf 22 = .ok (.ishr, 1) := by decide +kernel
theorem dX7_gainOf_23 : decode cX7_gainOf 23 = .ok (.iconst 1, 1) := by decide +kernel
theorem dX7_gainOf_24 : decode cX7_gainOf 24 = .ok (.iand, 1) := by decide +kernel
theorem dX7_gainOf_25 : decode cX7_gainOf 25 = .ok (.iconst 1, 1) := by decide +kernel
theorem dX7_gainOf_26 : decode cX7_gainOf 26 = .ok (.if_icmp .ne 7, 3) := by decide +kernel
theorem dX7_gainOf_29 : decode cX7_gainOf 29 = .ok (.iconst 1, 1) := by decide +kernel
theorem dX7_gainOf_30 : decode cX7_gainOf 30 = .ok (.goto 4, 3) := by decide +kernel
theorem dX7_gainOf_33 : decode cX7_gainOf 33 = .ok (.iconst 0, 1) := by decide +kernel
theorem dX7_gainOf_34 : decode cX7_gainOf 34 = .ok (.istore 6, 2) := by decide +kernel
theorem dX7_gainOf_36 : decode cX7_gainOf 36 = .ok (.aload_n 0, 1) := by decide +kernel
theorem dX7_gainOf_37 : decode cX7_gainOf 37 = .ok (.getfield 53, 3) := by decide +kernel
theorem dX7_gainOf_40 : decode cX7_gainOf 40 = .ok (.bipush 14, 2) := by decide +kernel
theorem dX7_gainOf_42 : decode cX7_gainOf 42 = .ok (.iload 5, 2) := by decide +kernel
theorem dX7_gainOf_44 : decode cX7_gainOf 44 = .ok (.imul, 1) := by decide +kernel
theorem dX7_gainOf_45 : decode cX7_gainOf 45 = .ok (.bipush 13, 2) := by decide +kernel
theorem dX7_gainOf_47 : decode cX7_gainOf 47 = .ok (.iadd, 1) := by decide +kernel
theorem dX7_gainOf_48 : decode cX7_gainOf 48 = .ok (.iload 6, 2) := by decide +kernel
theorem dX7_gainOf_50 : decode cX7_gainOf 50 = .ok (.ifCond .eq 17, 3) := by decide +kernel
theorem dX7_gainOf_53 : decode cX7_gainOf 53 = .ok (.iload_n 2, 1) := by decide +kernel
theorem dX7_gainOf_54 : decode cX7_gainOf 54 = .ok (.aload_n 0, 1) := by decide +kernel
theorem dX7_gainOf_55 : decode cX7_gainOf 55 = .ok (.getfield 41, 3) := by decide +kernel
theorem dX7_gainOf_58 : decode cX7_gainOf 58 = .ok (.iconst 3, 1) := by decide +kernel
theorem dX7_gainOf_59 : decode cX7_gainOf 59 = .ok (.iaload, 1) := by decide +kernel
theorem dX7_gainOf_60 : decode cX7_gainOf 60 = .ok (.imul, 1) := by decide +kernel
theorem dX7_gainOf_61 : decode cX7_gainOf 61 = .ok (.bipush 100, 2) := by decide +kernel
theorem dX7_gainOf_63 : decode cX7_gainOf 63 = .ok (.idiv, 1) := by decide +kernel
theorem dX7_gainOf_64 : decode cX7_gainOf 64 = .ok (.goto 4, 3) := by decide +kernel
theorem dX7_gainOf_67 : decode cX7_gainOf 67 = .ok (.iconst 0, 1) := by decide +kernel
theorem dX7_gainOf_68 : decode cX7_gainOf 68 = .ok (.iastore, 1) := by decide +kernel
theorem dX7_gainOf_69 : decode cX7_gainOf 69 = .ok (.iload 4, 2) := by decide +kernel
theorem dX7_gainOf_71 : decode cX7_gainOf 71 = .ok (.iload 6, 2) := by decide +kernel
theorem dX7_gainOf_73 : decode cX7_gainOf 73 = .ok (.ifCond .eq 13, 3) := by decide +kernel
theorem dX7_gainOf_76 : decode cX7_gainOf 76 = .ok (.aload_n 0, 1) := by decide +kernel
theorem dX7_gainOf_77 : decode cX7_gainOf 77 = .ok (.getfield 7, 3) := by decide +kernel
theorem dX7_gainOf_80 : decode cX7_gainOf 80 = .ok (.iload 5, 2) := by decide +kernel
theorem dX7_gainOf_82 : decode cX7_gainOf 82 = .ok (.iaload, 1) := by decide +kernel
theorem dX7_gainOf_83 : decode cX7_gainOf 83 = .ok (.goto 4, 3) := by decide +kernel
theorem dX7_gainOf_86 : decode cX7_gainOf 86 = .ok (.iconst 0, 1) := by decide +kernel
theorem dX7_gainOf_87 : decode cX7_gainOf 87 = .ok (.iadd, 1) := by decide +kernel
theorem dX7_gainOf_88 : decode cX7_gainOf 88 = .ok (.istore 4, 2) := by decide +kernel
theorem dX7_gainOf_90 : decode cX7_gainOf 90 = .ok (.iinc 5 1, 3) := by decide +kernel
theorem dX7_gainOf_93 : decode cX7_gainOf 93 = .ok (.goto (-83), 3) := by decide +kernel
theorem dX7_gainOf_96 : decode cX7_gainOf 96 = .ok (.iload_n 3, 1) := by decide +kernel
theorem dX7_gainOf_97 : decode cX7_gainOf 97 = .ok (.aload_n 0, 1) := by decide +kernel
theorem dX7_gainOf_98 : decode cX7_gainOf 98 = .ok (.invokevirtual 217, 3) := by decide +kernel
theorem dX7_gainOf_101 : decode cX7_gainOf 101 = .ok (.imul, 1) := by decide +kernel
theorem dX7_gainOf_102 : decode cX7_gainOf 102 = .ok (.iload 4, 2) := by decide +kernel
theorem dX7_gainOf_104 : decode cX7_gainOf 104 = .ok (.isub, 1) := by decide +kernel
theorem dX7_gainOf_105 : decode cX7_gainOf 105 = .ok (.ireturn, 1) := by decide +kernel
theorem dX7_sellers_0 : decode cX7_sellers 0 = .ok (.iconst 0, 1) := by decide +kernel
theorem dX7_sellers_1 : decode cX7_sellers 1 = .ok (.istore_n 1, 1) := by decide +kernel
theorem dX7_sellers_2 : decode cX7_sellers 2 = .ok (.iconst 0, 1) := by decide +kernel
theorem dX7_sellers_3 : decode cX7_sellers 3 = .ok (.istore_n 2, 1) := by decide +kernel
theorem dX7_sellers_4 : decode cX7_sellers 4 = .ok (.iload_n 2, 1) := by decide +kernel
theorem dX7_sellers_5 : decode cX7_sellers 5 = .ok (.aload_n 0, 1) := by decide +kernel
theorem dX7_sellers_6 : decode cX7_sellers 6 = .ok (.getfield 98, 3) := by decide +kernel
theorem dX7_sellers_9 : decode cX7_sellers 9 = .ok (.if_icmp .ge 27, 3) := by decide +kernel
theorem dX7_sellers_12 : decode cX7_sellers 12 = .ok (.iload_n 1, 1) := by decide +kernel
theorem dX7_sellers_13 : decode cX7_sellers 13 = .ok (.aload_n 0, 1) := by decide +kernel
theorem dX7_sellers_14 : decode cX7_sellers 14 = .ok (.iload_n 2, 1) := by decide +kernel
theorem dX7_sellers_15 : decode cX7_sellers 15 = .ok (.invokevirtual 314, 3) := by decide +kernel
theorem dX7_sellers_18 : decode cX7_sellers 18 = .ok (.ifCond .eq 9, 3) := by decide +kernel
theorem dX7_sellers_21 : decode cX7_sellers 21 = .ok (.iconst 1, 1) := by decide +kernel
theorem dX7_sellers_22 : decode cX7_sellers 22 = .ok (.iload_n 2, 1) := by decide +kernel
theorem dX7_sellers_23 : decode cX7_sellers 23 = .ok (.ishl, 1) := by decide +kernel
theorem dX7_sellers_24 : decode cX7_sellers 24 = .ok (.goto 4, 3) := by decide +kernel
theorem dX7_sellers_27 : decode cX7_sellers 27 = .ok (.iconst 0, 1) := by decide +kernel
theorem dX7_sellers_28 : decode cX7_sellers 28 = .ok (.ior, 1) := by decide +kernel
theorem dX7_sellers_29 : decode cX7_sellers 29 = .ok (.istore_n 1, 1) := by decide +kernel
theorem dX7_sellers_30 : decode cX7_sellers 30 = .ok (.iinc 2 1, 3) := by decide +kernel
theorem dX7_sellers_33 : decode cX7_sellers 33 = .ok (.goto (-29), 3) := by decide +kernel
theorem dX7_sellers_36 : decode cX7_sellers 36 = .ok (.iload_n 1, 1) := by decide +kernel
theorem dX7_sellers_37 : decode cX7_sellers 37 = .ok (.ireturn, 1) := by decide +kernel
theorem dX7_gain_0 : decode cX7_gain 0 = .ok (.aload_n 0, 1) := by decide +kernel
theorem dX7_gain_1 : decode cX7_gain 1 = .ok (.iload_n 1, 1) := by decide +kernel
theorem dX7_gain_2 : decode cX7_gain 2 = .ok (.invokevirtual 223, 3) := by decide +kernel
theorem dX7_gain_5 : decode cX7_gain 5 = .ok (.ifCond .eq 38, 3) := by decide +kernel
theorem dX7_gain_8 : decode cX7_gain 8 = .ok (.iload_n 1, 1) := by decide +kernel
theorem dX7_gain_9 : decode cX7_gain 9 = .ok (.aload_n 0, 1) := by decide +kernel
theorem dX7_gain_10 : decode cX7_gain 10 = .ok (.invokevirtual 317, 3) := by decide +kernel
theorem dX7_gain_13 : decode cX7_gain 13 = .ok (.iconst (-1), 1) := by decide +kernel
theorem dX7_gain_14 : decode cX7_gain 14 = .ok (.ixor, 1) := by decide +kernel
theorem dX7_gain_15 : decode cX7_gain 15 = .ok (.iand, 1) := by decide +kernel
theorem dX7_gain_16 : decode cX7_gain 16 = .ok (.ifCond .ne 27, 3) := by decide +kernel
theorem dX7_gain_19 : decode cX7_gain 19 = .ok (.iload_n 2, 1) := by decide +kernel
theorem dX7_gain_20 : decode cX7_gain 20 = .ok (.i2l, 1) := by decide +kernel
theorem dX7_gain_21 : decode cX7_gain 21 = .ok (.lconst 1, 1) := by decide +kernel
theorem dX7_gain_22 : decode cX7_gain 22 = .ok (.ldc2_w 109, 3) := by decide +kernel
theorem dX7_gain_25 : decode cX7_gain 25 = .ok (.invokestatic 102, 3) := by decide +kernel
theorem dX7_gain_28 : decode cX7_gain 28 = .ok (.ifCond .eq 15, 3) := by decide +kernel
theorem dX7_gain_31 : decode cX7_gain 31 = .ok (.iload_n 3, 1) := by decide +kernel
theorem dX7_gain_32 : decode cX7_gain 32 = .ok (.i2l, 1) := by decide +kernel
theorem dX7_gain_33 : decode cX7_gain 33 = .ok (.lconst 0, 1) := by decide +kernel
theorem dX7_gain_34 : decode cX7_gain 34 = .ok (.ldc2_w 231, 3) := by decide +kernel
theorem dX7_gain_37 : decode cX7_gain 37 = .ok (.invokestatic 102, 3) := by decide +kernel
theorem dX7_gain_40 : decode cX7_gain 40 = .ok (.ifCond .ne 7, 3) := by decide +kernel
theorem dX7_gain_43 : decode cX7_gain 43 = .ok (.ldc_w 320, 3) := by decide +kernel
theorem dX7_gain_46 : decode cX7_gain 46 = .ok (.ireturn, 1) := by decide +kernel
theorem dX7_gain_47 : decode cX7_gain 47 = .ok (.aload_n 0, 1) := by decide +kernel
theorem dX7_gain_48 : decode cX7_gain 48 = .ok (.iload_n 1, 1) := by decide +kernel
theorem dX7_gain_49 : decode cX7_gain 49 = .ok (.iload_n 2, 1) := by decide +kernel
theorem dX7_gain_50 : decode cX7_gain 50 = .ok (.iload_n 3, 1) := by decide +kernel
theorem dX7_gain_51 : decode cX7_gain 51 = .ok (.invokevirtual 321, 3) := by decide +kernel
theorem dX7_gain_54 : decode cX7_gain 54 = .ok (.ireturn, 1) := by decide +kernel
theorem dX7_best_0 : decode cX7_best 0 = .ok (.iload_n 1, 1) := by decide +kernel
theorem dX7_best_1 : decode cX7_best 1 = .ok (.i2l, 1) := by decide +kernel
theorem dX7_best_2 : decode cX7_best 2 = .ok (.lconst 1, 1) := by decide +kernel
theorem dX7_best_3 : decode cX7_best 3 = .ok (.ldc2_w 109, 3) := by decide +kernel
theorem dX7_best_6 : decode cX7_best 6 = .ok (.invokestatic 102, 3) := by decide +kernel
theorem dX7_best_9 : decode cX7_best 9 = .ok (.ifCond .eq 25, 3) := by decide +kernel
theorem dX7_best_12 : decode cX7_best 12 = .ok (.iload_n 2, 1) := by decide +kernel
theorem dX7_best_13 : decode cX7_best 13 = .ok (.i2l, 1) := by decide +kernel
theorem dX7_best_14 : decode cX7_best 14 = .ok (.lconst 0, 1) := by decide +kernel
theorem dX7_best_15 : decode cX7_best 15 = .ok (.ldc2_w 231, 3) := by decide +kernel
theorem dX7_best_18 : decode cX7_best 18 = .ok (.invokestatic 102, 3) := by decide +kernel
theorem dX7_best_21 : decode cX7_best 21 = .ok (.ifCond .eq 13, 3) := by decide +kernel
theorem dX7_best_24 : decode cX7_best 24 = .ok (.iload_n 3, 1) := by decide +kernel
theorem dX7_best_25 : decode cX7_best 25 = .ok (.i2l, 1) := by decide +kernel
theorem dX7_best_26 : decode cX7_best 26 = .ok (.lconst 0, 1) := by decide +kernel
theorem dX7_best_27 : decode cX7_best 27 = .ok (.lconst 1, 1) := by decide +kernel
theorem dX7_best_28 : decode cX7_best 28 = .ok (.invokestatic 102, 3) := by decide +kernel
theorem dX7_best_31 : decode cX7_best 31 = .ok (.ifCond .ne 5, 3) := by decide +kernel
theorem dX7_best_34 : decode cX7_best 34 = .ok (.iconst (-1), 1) := by decide +kernel
theorem dX7_best_35 : decode cX7_best 35 = .ok (.ireturn, 1) := by decide +kernel
theorem dX7_best_36 : decode cX7_best 36 = .ok (.aload_n 0, 1) := by decide +kernel
theorem dX7_best_37 : decode cX7_best 37 = .ok (.invokevirtual 317, 3) := by decide +kernel
theorem dX7_best_40 : decode cX7_best 40 = .ok (.istore 4, 2) := by decide +kernel
theorem dX7_best_42 : decode cX7_best 42 = .ok (.iload 4, 2) := by decide +kernel
theorem dX7_best_44 : decode cX7_best 44 = .ok (.invokestatic 144, 3) := by decide +kernel
theorem dX7_best_47 : decode cX7_best 47 = .ok (.bipush 8, 2) := by decide +kernel
theorem dX7_best_49 : decode cX7_best 49 = .ok (.if_icmp .le 6, 3) := by decide +kernel
theorem dX7_best_52 : decode cX7_best 52 = .ok (.bipush (-2), 2) := by decide +kernel
theorem dX7_best_54 : decode cX7_best 54 = .ok (.ireturn, 1) := by decide +kernel
theorem dX7_best_55 : decode cX7_best 55 = .ok (.iconst 0, 1) := by decide +kernel
theorem dX7_best_56 : decode cX7_best 56 = .ok (.istore 5, 2) := by decide +kernel
theorem dX7_best_58 : decode cX7_best 58 = .ok (.iconst 0, 1) := by decide +kernel
theorem dX7_best_59 : decode cX7_best 59 = .ok (.istore 6, 2) := by decide +kernel
theorem dX7_best_61 : decode cX7_best 61 = .ok (.iconst 1, 1) := by decide +kernel
theorem dX7_best_62 : decode cX7_best 62 = .ok (.istore 7, 2) := by decide +kernel
theorem dX7_best_64 : decode cX7_best 64 = .ok (.iload 7, 2) := by decide +kernel
theorem dX7_best_66 : decode cX7_best 66 = .ok (.iconst 1, 1) := by decide +kernel
theorem dX7_best_67 : decode cX7_best 67 = .ok (.aload_n 0, 1) := by decide +kernel
theorem dX7_best_68 : decode cX7_best 68 = .ok (.getfield 98, 3) := by decide +kernel
theorem dX7_best_71 : decode cX7_best 71 = .ok (.ishl, 1) := by decide +kernel
theorem dX7_best_72 : decode cX7_best 72 = .ok (.if_icmp .ge 61, 3) := by decide +kernel
theorem dX7_best_75 : decode cX7_best 75 = .ok (.iload 7, 2) := by decide +kernel
theorem dX7_best_77 : decode cX7_best 77 = .ok (.iload 4, 2) := by decide +kernel
theorem dX7_best_79 : decode cX7_best 79 = .ok (.iconst (-1), 1) := by decide +kernel
theorem dX7_best_80 : decode cX7_best 80 = .ok (.ixor, 1) := by decide +kernel
theorem dX7_best_81 : decode cX7_best 81 = .ok (.iand, 1) := by decide +kernel
theorem dX7_best_82 : decode cX7_best 82 = .ok (.ifCond .ne 45, 3) := by decide +kernel
theorem dX7_best_85 : decode cX7_best 85 = .ok (.aload_n 0, 1) := by decide +kernel
theorem dX7_best_86 : decode cX7_best 86 = .ok (.iload 7, 2) := by decide +kernel
theorem dX7_best_88 : decode cX7_best 88 = .ok (.iload_n 1, 1) := by decide +kernel
theorem dX7_best_89 : decode cX7_best 89 = .ok (.iload_n 2, 1) := by decide +kernel
theorem dX7_best_90 : decode cX7_best 90 = .ok (.invokevirtual 321, 3) := by decide +kernel
theorem dX7_best_93 : decode cX7_best 93 = .ok (.istore 8, 2) := by decide +kernel
theorem dX7_best_95 : decode cX7_best 95 = .ok (.iload 8, 2) := by decide +kernel
theorem dX7_best_97 : decode cX7_best 97 = .ok (.iload 6, 2) := by decide +kernel
theorem dX7_best_99 : decode cX7_best 99 = .ok (.if_icmp .le 8, 3) := by decide +kernel
theorem dX7_best_102 : decode cX7_best 102 = .ok (.iload 7, 2) := by decide +kernel
theorem dX7_best_104 : decode cX7_best 104 = .ok (.goto 5, 3) := by decide +kernel
theorem dX7_best_107 : decode cX7_best 107 = .ok (.iload 5, 2) := by decide +kernel
theorem dX7_best_109 : decode cX7_best 109 = .ok (.istore 5, 2) := by decide +kernel
theorem dX7_best_111 : decode cX7_best 111 = .ok (.iload 8, 2) := by decide +kernel
theorem dX7_best_113 : decode cX7_best 113 = .ok (.iload 6, 2) := by decide +kernel
theorem dX7_best_115 : decode cX7_best 115 = .ok (.if_icmp .le 8, 3) := by decide +kernel
theorem dX7_best_118 : decode cX7_best 118 = .ok (.iload 8, 2) := by decide +kernel
theorem dX7_best_120 : decode cX7_best 120 = .ok (.goto 5, 3) := by decide +kernel
theorem dX7_best_123 : decode cX7_best 123 = .ok (.iload 6, 2) := by decide +kernel
theorem dX7_best_125 : decode cX7_best 125 = .ok (.istore 6, 2) := by decide +kernel
theorem dX7_best_127 : decode cX7_best 127 = .ok (.iinc 7 1, 3) := by decide +kernel
theorem dX7_best_130 : decode cX7_best 130 = .ok (.goto (-66), 3) := by decide +kernel
theorem dX7_best_133 : decode cX7_best 133 = .ok (.iload_n 3, 1) := by decide +kernel
theorem dX7_best_134 : decode cX7_best 134 = .ok (.ifCond .ne 8, 3) := by decide +kernel
theorem dX7_best_137 : decode cX7_best 137 = .ok (.iload 6, 2) := by decide +kernel
theorem dX7_best_139 : decode cX7_best 139 = .ok (.goto 5, 3) := by decide +kernel
theorem dX7_best_142 : decode cX7_best 142 = .ok (.iload 5, 2) := by decide +kernel
theorem dX7_best_144 : decode cX7_best 144 = .ok (.ireturn, 1) := by decide +kernel
theorem dX7_isSheet_0 : decode cX7_isSheet 0 = .ok (.iload_n 0, 1) := by decide +kernel
theorem dX7_isSheet_1 : decode cX7_isSheet 1 = .ok (.i2l, 1) := by decide +kernel
theorem dX7_isSheet_2 : decode cX7_isSheet 2 = .ok (.lconst 0, 1) := by decide +kernel
theorem dX7_isSheet_3 : decode cX7_isSheet 3 = .ok (.ldc2_w 119, 3) := by decide +kernel
theorem dX7_isSheet_6 : decode cX7_isSheet 6 = .ok (.invokestatic 102, 3) := by decide +kernel
theorem dX7_isSheet_9 : decode cX7_isSheet 9 = .ok (.ifCond .eq 19, 3) := by decide +kernel
theorem dX7_isSheet_12 : decode cX7_isSheet 12 = .ok (.iload_n 1, 1) := by decide +kernel
theorem dX7_isSheet_13 : decode cX7_isSheet 13 = .ok (.i2l, 1) := by decide +kernel
theorem dX7_isSheet_14 : decode cX7_isSheet 14 = .ok (.lconst 0, 1) := by decide +kernel
theorem dX7_isSheet_15 : decode cX7_isSheet 15 = .ok (.ldc2_w 226, 3) := by decide +kernel
theorem dX7_isSheet_18 : decode cX7_isSheet 18 = .ok (.invokestatic 102, 3) := by decide +kernel
theorem dX7_isSheet_21 : decode cX7_isSheet 21 = .ok (.ifCond .eq 7, 3) := by decide +kernel
theorem dX7_isSheet_24 : decode cX7_isSheet 24 = .ok (.iconst 1, 1) := by decide +kernel
theorem dX7_isSheet_25 : decode cX7_isSheet 25 = .ok (.goto 4, 3) := by decide +kernel
theorem dX7_isSheet_28 : decode cX7_isSheet 28 = .ok (.iconst 0, 1) := by decide +kernel
theorem dX7_isSheet_29 : decode cX7_isSheet 29 = .ok (.ireturn, 1) := by decide +kernel
theorem dX7_sheet_0 : decode cX7_sheet 0 = .ok (.iload_n 1, 1) := by decide +kernel
theorem dX7_sheet_1 : decode cX7_sheet 1 = .ok (.iload_n 2, 1) := by decide +kernel
theorem dX7_sheet_2 : decode cX7_sheet 2 = .ok (.invokestatic 324, 3) := by decide +kernel
theorem dX7_sheet_5 : decode cX7_sheet 5 = .ok (.ifCond .eq 9, 3) := by decide +kernel
theorem dX7_sheet_8 : decode cX7_sheet 8 = .ok (.iload_n 3, 1) := by decide +kernel
theorem dX7_sheet_9 : decode cX7_sheet 9 = .ok (.bipush 48, 2) := by decide +kernel
theorem dX7_sheet_11 : decode cX7_sheet 11 = .ok (.if_icmp .le 5, 3) := by decide +kernel
theorem dX7_sheet_14 : decode cX7_sheet 14 = .ok (.iconst (-1), 1) := by decide +kernel
theorem dX7_sheet_15 : decode cX7_sheet 15 = .ok (.ireturn, 1) := by decide +kernel
theorem dX7_sheet_16 : decode cX7_sheet 16 = .ok (.iload_n 3, 1) := by decide +kernel
theorem dX7_sheet_17 : decode cX7_sheet 17 = .ok (.ifCond .ge 6, 3) := by decide +kernel
theorem dX7_sheet_20 : decode cX7_sheet 20 = .ok (.bipush (-14), 2) := by decide +kernel
theorem dX7_sheet_22 : decode cX7_sheet 22 = .ok (.ireturn, 1) := by decide +kernel
theorem dX7_sheet_23 : decode cX7_sheet 23 = .ok (.aload_n 0, 1) := by decide +kernel
theorem dX7_sheet_24 : decode cX7_sheet 24 = .ok (.getfield 83, 3) := by decide +kernel
theorem dX7_sheet_27 : decode cX7_sheet 27 = .ok (.iload_n 1, 1) := by decide +kernel
theorem dX7_sheet_28 : decode cX7_sheet 28 = .ok (.iload_n 2, 1) := by decide +kernel
theorem dX7_sheet_29 : decode cX7_sheet 29 = .ok (.iastore, 1) := by decide +kernel
theorem dX7_sheet_30 : decode cX7_sheet 30 = .ok (.aload_n 0, 1) := by decide +kernel
theorem dX7_sheet_31 : decode cX7_sheet 31 = .ok (.getfield 86, 3) := by decide +kernel
theorem dX7_sheet_34 : decode cX7_sheet 34 = .ok (.iload_n 1, 1) := by decide +kernel
theorem dX7_sheet_35 : decode cX7_sheet 35 = .ok (.iload_n 3, 1) := by decide +kernel
theorem dX7_sheet_36 : decode cX7_sheet 36 = .ok (.iastore, 1) := by decide +kernel
theorem dX7_sheet_37 : decode cX7_sheet 37 = .ok (.iconst 0, 1) := by decide +kernel
theorem dX7_sheet_38 : decode cX7_sheet 38 = .ok (.istore 4, 2) := by decide +kernel
theorem dX7_sheet_40 : decode cX7_sheet 40 = .ok (.iload 4, 2) := by decide +kernel
theorem dX7_sheet_42 : decode cX7_sheet 42 = .ok (.bipush 48, 2) := by decide +kernel
theorem dX7_sheet_44 : decode cX7_sheet 44 = .ok (.if_icmp .ge 22, 3) := by decide +kernel
theorem dX7_sheet_47 : decode cX7_sheet 47 = .ok (.aload_n 0, 1) := by decide +kernel
theorem dX7_sheet_48 : decode cX7_sheet 48 = .ok (.getfield 89, 3) := by decide +kernel
theorem dX7_sheet_51 : decode cX7_sheet 51 = .ok (.bipush 48, 2) := by decide +kernel
theorem dX7_sheet_53 : decode cX7_sheet 53 = .ok (.iload_n 1, 1) := by decide +kernel
theorem dX7_sheet_54 : decode cX7_sheet 54 = .ok (.imul, 1) := by decide +kernel
theorem dX7_sheet_55 : decode cX7_sheet 55 = .ok (.iload 4, 2) := by decide +kernel
theorem dX7_sheet_57 : decode cX7_sheet 57 = .ok (.iadd, 1) := by decide +kernel
theorem dX7_sheet_58 : decode cX7_sheet 58 = .ok (.iconst 0, 1) := by decide +kernel
theorem dX7_sheet_59 : decode cX7_sheet 59 = .ok (.iastore, 1) := by decide +kernel
theorem dX7_sheet_60 : decode cX7_sheet 60 = .ok (.iinc 4 1, 3) := by decide +kernel
theorem dX7_sheet_63 : decode cX7_sheet 63 = .ok (.goto (-23), 3) := by decide +kernel
theorem dX7_sheet_66 : decode cX7_sheet 66 = .ok (.iconst 1, 1) := by decide +kernel
theorem dX7_sheet_67 : decode cX7_sheet 67 = .ok (.ireturn, 1) := by decide +kernel
theorem dX7_lay_0 : decode cX7_lay 0 = .ok (.iload_n 1, 1) := by decide +kernel
theorem dX7_lay_1 : decode cX7_lay 1 = .ok (.iconst 0, 1) := by decide +kernel
theorem dX7_lay_2 : decode cX7_lay 2 = .ok (.invokestatic 324, 3) := by decide +kernel
theorem dX7_lay_5 : decode cX7_lay 5 = .ok (.ifCond .ne 5, 3) := by decide +kernel
theorem dX7_lay_8 : decode cX7_lay 8 = .ok (.iconst (-1), 1) := by decide +kernel
theorem dX7_lay_9 : decode cX7_lay 9 = .ok (.ireturn, 1) := by decide +kernel
theorem dX7_lay_10 : decode cX7_lay 10 = .ok (.aload_n 0, 1) := by decide +kernel
theorem dX7_lay_11 : decode cX7_lay 11 = .ok (.getfield 83, 3) := by decide +kernel
theorem dX7_lay_14 : decode cX7_lay 14 = .ok (.iload_n 1, 1) := by decide +kernel
theorem dX7_lay_15 : decode cX7_lay 15 = .ok (.iaload, 1) := by decide +kernel
theorem dX7_lay_16 : decode cX7_lay 16 = .ok (.bipush (-4), 2) := by decide +kernel
theorem dX7_lay_18 : decode cX7_lay 18 = .ok (.if_icmp .ne 6, 3) := by decide +kernel
theorem dX7_lay_21 : decode cX7_lay 21 = .ok (.bipush (-11), 2) := by decide +kernel
theorem dX7_lay_23 : decode cX7_lay 23 = .ok (.ireturn, 1) := by decide +kernel
theorem dX7_lay_24 : decode cX7_lay 24 = .ok (.iload_n 2, 1) := by decide +kernel
theorem dX7_lay_25 : decode cX7_lay 25 = .ok (.i2l, 1) := by decide +kernel
theorem dX7_lay_26 : decode cX7_lay 26 = .ok (.lconst 0, 1) := by decide +kernel
theorem dX7_lay_27 : decode cX7_lay 27 = .ok (.aload_n 0, 1) := by decide +kernel
theorem dX7_lay_28 : decode cX7_lay 28 = .ok (.getfield 86, 3) := by decide +kernel
theorem dX7_lay_31 : decode cX7_lay 31 = .ok (.iload_n 1, 1) := by decide +kernel
theorem dX7_lay_32 : decode cX7_lay 32 = .ok (.iaload, 1) := by decide +kernel
theorem dX7_lay_33 : decode cX7_lay 33 = .ok (.iconst 1, 1) := by decide +kernel
theorem dX7_lay_34 : decode cX7_lay 34 = .ok (.isub, 1) := by decide +kernel
theorem dX7_lay_35 : decode cX7_lay 35 = .ok (.i2l, 1) := by decide +kernel
theorem dX7_lay_36 : decode cX7_lay 36 = .ok (.invokestatic 102, 3) := by decide +kernel
theorem dX7_lay_39 : decode cX7_lay 39 = .ok (.ifCond .ne 6, 3) := by decide +kernel
theorem dX7_lay_42 : decode cX7_lay 42 = .ok (.bipush (-12), 2) := by decide +kernel
theorem dX7_lay_44 : decode cX7_lay 44 = .ok (.ireturn, 1) := by decide +kernel
theorem dX7_lay_45 : decode cX7_lay 45 = .ok (.aload_n 0, 1) := by decide +kernel
theorem dX7_lay_46 : decode cX7_lay 46 = .ok (.getfield 89, 3) := by decide +kernel
theorem dX7_lay_49 : decode cX7_lay 49 = .ok (.bipush 48, 2) := by decide +kernel
theorem dX7_lay_51 : decode cX7_lay 51 = .ok (.iload_n 1, 1) := by decide +kernel
theorem dX7_lay_52 : decode cX7_lay 52 = .ok (.imul, 1) := by decide +kernel
theorem dX7_lay_53 : decode cX7_lay 53 = .ok (.iload_n 2, 1) := by decide +kernel
theorem dX7_lay_54 : decode cX7_lay 54 = .ok (.iadd, 1) := by decide +kernel
theorem dX7_lay_55 : decode cX7_lay 55 = .ok (.aload_n 0, 1) := by decide +kernel
theorem dX7_lay_56 : decode cX7_lay 56 = .ok (.getfield 83, 3) := by decide +kernel
theorem dX7_lay_59 : decode cX7_lay 59 = .ok (.iload_n 1, 1) := by decide +kernel
theorem dX7_lay_60 : decode cX7_lay 60 = .ok (.iaload, 1) := by decide +kernel
theorem dX7_lay_61 : decode cX7_lay 61 = .ok (.ifCond .ne 8, 3) := by decide +kernel
theorem dX7_lay_64 : decode cX7_lay 64 = .ok (.iload_n 3, 1) := by decide +kernel
theorem dX7_lay_65 : decode cX7_lay 65 = .ok (.i2b, 1) := by decide +kernel
theorem dX7_lay_66 : decode cX7_lay 66 = .ok (.goto 19, 3) := by decide +kernel
theorem dX7_lay_69 : decode cX7_lay 69 = .ok (.aload_n 0, 1) := by decide +kernel
theorem dX7_lay_70 : decode cX7_lay 70 = .ok (.getfield 83, 3) := by decide +kernel
theorem dX7_lay_73 : decode cX7_lay 73 = .ok (.iload_n 1, 1) := by decide +kernel
theorem dX7_lay_74 : decode cX7_lay 74 = .ok (.iaload, 1) := by decide +kernel
theorem dX7_lay_75 : decode cX7_lay 75 = .ok (.iconst 1, 1) := by decide +kernel
theorem dX7_lay_76 : decode cX7_lay 76 = .ok (.if_icmp .ne 8, 3) := by decide +kernel
theorem dX7_lay_79 : decode cX7_lay 79 = .ok (.iload_n 3, 1) := by decide +kernel
theorem dX7_lay_80 : decode cX7_lay 80 = .ok (.i2s, 1) := by decide +kernel
theorem dX7_lay_81 : decode cX7_lay 81 = .ok (.goto 4, 3) := by decide +kernel
theorem dX7_lay_84 : decode cX7_lay 84 = .ok (.iload_n 3, 1) := by decide +kernel
theorem dX7_lay_85 : decode cX7_lay 85 = .ok (.iastore, 1) := by decide +kernel
theorem dX7_lay_86 : decode cX7_lay 86 = .ok (.iconst 1, 1) := by decide +kernel
theorem dX7_lay_87 : decode cX7_lay 87 = .ok (.ireturn, 1) := by decide +kernel
theorem dX7_refuses_0 : decode cX7_refuses 0 = .ok (.aload_n 0, 1) := by decide +kernel
theorem dX7_refuses_1 : decode cX7_refuses 1 = .ok (.getfield 83, 3) := by decide +kernel
theorem dX7_refuses_4 : decode cX7_refuses 4 = .ok (.iload_n 1, 1) := by decide +kernel
theorem dX7_refuses_5 : decode cX7_refuses 5 = .ok (.iaload, 1) := by decide +kernel
theorem dX7_refuses_6 : decode cX7_refuses 6 = .ok (.bipush (-4), 2) := by decide +kernel
theorem dX7_refuses_8 : decode cX7_refuses 8 = .ok (.if_icmp .ne 7, 3) := by decide +kernel
theorem dX7_refuses_11 : decode cX7_refuses 11 = .ok (.iconst 1, 1) := by decide +kernel
theorem dX7_refuses_12 : decode cX7_refuses 12 = .ok (.goto 40, 3) := by decide +kernel
theorem dX7_refuses_15 : decode cX7_refuses 15 = .ok (.aload_n 0, 1) := by decide +kernel
theorem dX7_refuses_16 : decode cX7_refuses 16 = .ok (.getfield 83, 3) := by decide +kernel
theorem dX7_refuses_19 : decode cX7_refuses 19 = .ok (.iload_n 1, 1) := by decide +kernel
theorem dX7_refuses_20 : decode cX7_refuses 20 = .ok (.iaload, 1) := by decide +kernel
theorem dX7_refuses_21 : decode cX7_refuses 21 = .ok (.iload_n 2, 1) := by decide +kernel
theorem dX7_refuses_22 : decode cX7_refuses 22 = .ok (.if_icmp .eq 7, 3) := by decide +kernel
theorem dX7_refuses_25 : decode cX7_refuses 25 = .ok (.iconst 3, 1) := by decide +kernel
theorem dX7_refuses_26 : decode cX7_refuses 26 = .ok (.goto 26, 3) := by decide +kernel
theorem dX7_refuses_29 : decode cX7_refuses 29 = .ok (.lload_n 3, 1) := by decide +kernel
theorem dX7_refuses_30 : decode cX7_refuses 30 = .ok (.lconst 0, 1) := by decide +kernel
theorem dX7_refuses_31 : decode cX7_refuses 31 = .ok (.lcmp, 1) := by decide +kernel
theorem dX7_refuses_32 : decode cX7_refuses 32 = .ok (.ifCond .lt 15, 3) := by decide +kernel
theorem dX7_refuses_35 : decode cX7_refuses 35 = .ok (.lload_n 3, 1) := by decide +kernel
theorem dX7_refuses_36 : decode cX7_refuses 36 = .ok (.aload_n 0, 1) := by decide +kernel
theorem dX7_refuses_37 : decode cX7_refuses 37 = .ok (.getfield 86, 3) := by decide +kernel
theorem dX7_refuses_40 : decode cX7_refuses 40 = .ok (.iload_n 1, 1) := by decide +kernel
theorem dX7_refuses_41 : decode cX7_refuses 41 = .ok (.iaload, 1) := by decide +kernel
theorem dX7_refuses_42 : decode cX7_refuses 42 = .ok (.i2l, 1) := by decide +kernel
theorem dX7_refuses_43 : decode cX7_refuses 43 = .ok (.lcmp, 1) := by decide +kernel
theorem dX7_refuses_44 : decode cX7_refuses 44 = .ok (.ifCond .lt 7, 3) := by decide +kernel
theorem dX7_refuses_47 : decode cX7_refuses 47 = .ok (.iconst 2, 1) := by decide +kernel
theorem dX7_refuses_48 : decode cX7_refuses 48 = .ok (.goto 4, 3) := by decide +kernel
theorem dX7_refuses_51 : decode cX7_refuses 51 = .ok (.iconst 0, 1) := by decide +kernel
theorem dX7_refuses_52 : decode cX7_refuses 52 = .ok (.ireturn, 1) := by decide +kernel
theorem dX7_read_0 : decode cX7_read 0 = .ok (.iload_n 1, 1) := by decide +kernel
theorem dX7_read_1 : decode cX7_read 1 = .ok (.iload_n 2, 1) := by decide +kernel
theorem dX7_read_2 : decode cX7_read 2 = .ok (.invokestatic 324, 3) := by decide +kernel
theorem dX7_read_5 : decode cX7_read 5 = .ok (.ifCond .eq 16, 3) := by decide +kernel
theorem dX7_read_8 : decode cX7_read 8 = .ok (.iload 4, 2) := by decide +kernel
theorem dX7_read_10 : decode cX7_read 10 = .ok (.i2l, 1) := by decide +kernel
theorem dX7_read_11 : decode cX7_read 11 = .ok (.lconst 0, 1) := by decide +kernel
theorem dX7_read_12 : decode cX7_read 12 = .ok (.ldc2_w 327, 3) := by decide +kernel
theorem dX7_read_15 : decode cX7_read 15 = .ok (.invokestatic 102, 3) := by decide +kernel
theorem dX7_read_18 : decode cX7_read 18 = .ok (.ifCond .ne 5, 3) := by decide +kernel
theorem dX7_read_21 : decode cX7_read 21 = .ok (.iconst (-1), 1) := by decide +kernel
theorem dX7_read_22 : decode cX7_read 22 = .ok (.ireturn, 1) := by decide +kernel
theorem dX7_read_23 : decode cX7_read 23 = .ok (.iconst 0, 1) := by decide +kernel
theorem dX7_read_24 : decode cX7_read 24 = .ok (.istore 5, 2) := by decide +kernel
theorem dX7_read_26 : decode cX7_read 26 = .ok (.iconst 0, 1) := by decide +kernel
theorem dX7_read_27 : decode cX7_read 27 = .ok (.istore 6, 2) := by decide +kernel
theorem dX7_read_29 : decode cX7_read 29 = .ok (.iconst 0, 1) := by decide +kernel
theorem dX7_read_30 : decode cX7_read 30 = .ok (.istore 7, 2) := by decide +kernel
theorem dX7_read_32 : decode cX7_read 32 = .ok (.iload 7, 2) := by decide +kernel
theorem dX7_read_34 : decode cX7_read 34 = .ok (.iload 4, 2) := by decide +kernel
theorem dX7_read_36 : decode cX7_read 36 = .ok (.if_icmp .ge 152, 3) := by decide +kernel
theorem dX7_read_39 : decode cX7_read 39 = .ok (.iload 5, 2) := by decide +kernel
theorem dX7_read_41 : decode cX7_read 41 = .ok (.ifCond .ne 147, 3) := by decide +kernel
theorem dX7_read_44 : decode cX7_read 44 = .ok (.iconst 0, 1) := by decide +kernel
theorem dX7_read_45 : decode cX7_read 45 = .ok (.istore 8, 2) := by decide +kernel
theorem dX7_read_47 : decode cX7_read 47 = .ok (.iload 8, 2) := by decide +kernel
theorem dX7_read_49 : decode cX7_read 49 = .ok (.iconst 4, 1) := by decide +kernel
theorem dX7_read_50 : decode cX7_read 50 = .ok (.if_icmp .ge 34, 3) := by decide +kernel
theorem dX7_read_53 : decode cX7_read 53 = .ok (.iload 5, 2) := by decide +kernel
theorem dX7_read_55 : decode cX7_read 55 = .ok (.ifCond .ne 29, 3) := by decide +kernel
theorem dX7_read_58 : decode cX7_read 58 = .ok (.aload_n 0, 1) := by decide +kernel
theorem dX7_read_59 : decode cX7_read 59 = .ok (.iload_n 1, 1) := by decide +kernel
theorem dX7_read_60 : decode cX7_read 60 = .ok (.iload_n 2, 1) := by decide +kernel
theorem dX7_read_61 : decode cX7_read 61 = .ok (.iload_n 3, 1) := by decide +kernel
theorem dX7_read_62 : decode cX7_read 62 = .ok (.i2l, 1) := by decide +kernel
theorem dX7_read_63 : decode cX7_read 63 = .ok (.iconst 4, 1) := by decide +kernel
theorem dX7_read_64 : decode cX7_read 64 = .ok (.iload 7, 2) := by decide +kernel
theorem dX7_read_66 : decode cX7_read 66 = .ok (.imul, 1) := by decide +kernel
theorem dX7_read_67 : decode cX7_read 67 = .ok (.i2l, 1) := by decide +kernel
theorem dX7_read_68 : decode cX7_read 68 = .ok (.ladd, 1) := by decide +kernel
theorem dX7_read_69 : decode cX7_read 69 = .ok (.iload 8, 2) := by decide +kernel
theorem dX7_read_71 : decode cX7_read 71 = .ok (.i2l, 1) := by decide +kernel
theorem dX7_read_72 : decode cX7_read 72 = .ok (.ladd, 1) := by decide +kernel
theorem dX7_read_73 : decode cX7_read 73 = .ok (.invokevirtual 329, 3) := by decide +kernel
theorem dX7_read_76 : decode cX7_read 76 = .ok (.istore 5, 2) := by decide +kernel
theorem dX7_read_78 : decode cX7_read 78 = .ok (.iinc 8 1, 3) := by decide +kernel
theorem dX7_read_81 : decode cX7_read 81 = .ok (.goto (-34), 3) := by decide +kernel
theorem dX7_read_84 : decode cX7_read 84 = .ok (.iload 5, 2) := by decide +kernel
theorem dX7_read_86 : decode cX7_read 86 = .ok (.ifCond .ne 96, 3) := by decide +kernel
theorem dX7_read_89 : decode cX7_read 89 = .ok (.bipush 48, 2) := by decide +kernel
theorem dX7_read_91 : decode cX7_read 91 = .ok (.iload_n 1, 1) := by decide +kernel
theorem dX7_read_92 : decode cX7_read 92 = .ok (.imul, 1) := by decide +kernel
theorem dX7_read_93 : decode cX7_read 93 = .ok (.iload_n 3, 1) := by decide +kernel
theorem dX7_read_94 : decode cX7_read 94 = .ok (.iadd, 1) := by decide +kernel
theorem dX7_read_95 : decode cX7_read 95 = .ok (.iconst 4, 1) := by decide +kernel
theorem dX7_read_96 : decode cX7_read 96 = .ok (.iload 7, 2) := by decide +kernel
theorem dX7_read_98 : decode cX7_read 98 = .ok (.imul, 1) := by decide +kernel
theorem dX7_read_99 : decode cX7_read 99 = .ok (.iadd, 1) := by decide +kernel
theorem dX7_read_100 : decode cX7_read 100 = .ok (.istore 8, 2) := by decide +kernel
theorem dX7_read_102 : decode cX7_read 102 = .ok (.aload_n 0, 1) := by decide +kernel
theorem dX7_read_103 : decode cX7_read 103 = .ok (.aload_n 0, 1) := by decide +kernel
theorem dX7_read_104 : decode cX7_read 104 = .ok (.getfield 89, 3) := by decide +kernel
theorem dX7_read_107 : decode cX7_read 107 = .ok (.iload 8, 2) := by decide +kernel
theorem dX7_read_109 : decode cX7_read 109 = .ok (.iaload, 1) := by decide +kernel
theorem dX7_read_110 : decode cX7_read 110 = .ok (.aload_n 0, 1) := by decide +kernel
theorem dX7_read_111 : decode cX7_read 111 = .ok (.getfield 89, 3) := by decide +kernel
theorem dX7_read_114 : decode cX7_read 114 = .ok (.iload 8, 2) := by decide +kernel
theorem dX7_read_116 : decode cX7_read 116 = .ok (.iconst 1, 1) := by decide +kernel
theorem dX7_read_117 : decode cX7_read 117 = .ok (.iadd, 1) := by decide +kernel
theorem dX7_read_118 : decode cX7_read 118 = .ok (.iaload, 1) := by decide +kernel
theorem dX7_read_119 : decode cX7_read 119 = .ok (.aload_n 0, 1) := by decide +kernel
theorem dX7_read_120 : decode cX7_read 120 = .ok (.getfield 89, 3) := by decide +kernel
theorem dX7_read_123 : decode cX7_read 123 = .ok (.iload 8, 2) := by decide +kernel
theorem dX7_read_125 : decode cX7_read 125 = .ok (.iconst 2, 1) := by decide +kernel
theorem dX7_read_126 : decode cX7_read 126 = .ok (.iadd, 1) := by decide +kernel
theorem dX7_read_127 : decode cX7_read 127 = .ok (.iaload, 1) := by decide +kernel
theorem dX7_read_128 : decode cX7_read 128 = .ok (.aload_n 0, 1) := by decide +kernel
theorem dX7_read_129 : decode cX7_read 129 = .ok (.getfield 89, 3) := by decide +kernel
theorem dX7_read_132 : decode cX7_read 132 = .ok (.iload 8, 2) := by decide +kernel
theorem dX7_read_134 : decode cX7_read 134 = .ok (.iconst 3, 1) := by decide +kernel
theorem dX7_read_135 : decode cX7_read 135 = .ok (.iadd, 1) := by decide +kernel
theorem dX7_read_136 : decode cX7_read 136 = .ok (.iaload, 1) := by decide +kernel
theorem dX7_read_137 : decode cX7_read 137 = .ok (.invokevirtual 238, 3) := by decide +kernel
theorem dX7_read_140 : decode cX7_read 140 = .ok (.ifCond .eq 18, 3) := by decide +kernel
theorem dX7_read_143 : decode cX7_read 143 = .ok (.aload_n 0, 1) := by decide +kernel
theorem dX7_read_144 : decode cX7_read 144 = .ok (.getfield 17, 3) := by decide +kernel
theorem dX7_read_147 : decode cX7_read 147 = .ok (.aload_n 0, 1) := by decide +kernel
theorem dX7_read_148 : decode cX7_read 148 = .ok (.getfield 89, 3) := by decide +kernel
theorem dX7_read_151 : decode cX7_read 151 = .ok (.iload 8, 2) := by decide +kernel
theorem dX7_read_153 : decode cX7_read 153 = .ok (.iaload, 1) := by decide +kernel
theorem dX7_read_154 : decode cX7_read 154 = .ok (.baload, 1) := by decide +kernel
theorem dX7_read_155 : decode cX7_read 155 = .ok (.ifCond .eq 9, 3) := by decide +kernel
theorem dX7_read_158 : decode cX7_read 158 = .ok (.bipush (-20), 2) := by decide +kernel
theorem dX7_read_160 : decode cX7_read 160 = .ok (.iload 7, 2) := by decide +kernel
theorem dX7_read_162 : decode cX7_read 162 = .ok (.isub, 1) := by decide +kernel
theorem dX7_read_163 : decode cX7_read 163 = .ok (.ireturn, 1) := by decide +kernel
theorem dX7_read_164 : decode cX7_read 164 = .ok (.aload_n 0, 1) := by decide +kernel
theorem dX7_read_165 : decode cX7_read 165 = .ok (.getfield 235, 3) := by decide +kernel
theorem dX7_read_168 : decode cX7_read 168 = .ok (.iload 7, 2) := by decide +kernel
theorem dX7_read_170 : decode cX7_read 170 = .ok (.iadd, 1) := by decide +kernel
theorem dX7_read_171 : decode cX7_read 171 = .ok (.bipush 24, 2) := by decide +kernel
theorem dX7_read_173 : decode cX7_read 173 = .ok (.if_icmp .lt 6, 3) := by decide +kernel
theorem dX7_read_176 : decode cX7_read 176 = .ok (.bipush (-3), 2) := by decide +kernel
theorem dX7_read_178 : decode cX7_read 178 = .ok (.ireturn, 1) := by decide +kernel
theorem dX7_read_179 : decode cX7_read 179 = .ok (.iinc 6 1, 3) := by decide +kernel
theorem dX7_read_182 : decode cX7_read 182 = .ok (.iinc 7 1, 3) := by decide +kernel
theorem dX7_read_185 : decode cX7_read 185 = .ok (.goto (-153), 3) := by decide +kernel
theorem dX7_read_188 : decode cX7_read 188 = .ok (.iconst 0, 1) := by decide +kernel
theorem dX7_read_189 : decode cX7_read 189 = .ok (.istore 7, 2) := by decide +kernel
theorem dX7_read_191 : decode cX7_read 191 = .ok (.iload 7, 2) := by decide +kernel
theorem dX7_read_193 : decode cX7_read 193 = .ok (.iload 6, 2) := by decide +kernel
theorem dX7_read_195 : decode cX7_read 195 = .ok (.if_icmp .ge 60, 3) := by decide +kernel
theorem dX7_read_198 : decode cX7_read 198 = .ok (.bipush 48, 2) := by decide +kernel
theorem dX7_read_200 : decode cX7_read 200 = .ok (.iload_n 1, 1) := by decide +kernel
theorem dX7_read_201 : decode cX7_read 201 = .ok (.imul, 1) := by decide +kernel
theorem dX7_read_202 : decode cX7_read 202 = .ok (.iload_n 3, 1) := by decide +kernel
theorem dX7_read_203 : decode cX7_read 203 = .ok (.iadd, 1) := by decide +kernel
theorem dX7_read_204 : decode cX7_read 204 = .ok (.iconst 4, 1) := by decide +kernel
theorem dX7_read_205 : decode cX7_read 205 = .ok (.iload 7, 2) := by decide +kernel
theorem dX7_read_207 : decode cX7_read 207 = .ok (.imul, 1) := by decide +kernel
theorem dX7_read_208 : decode cX7_read 208 = .ok (.iadd, 1) := by decide +kernel
theorem dX7_read_209 : decode cX7_read 209 = .ok (.istore 8, 2) := by decide +kernel
theorem dX7_read_211 : decode cX7_read 211 = .ok (.aload_n 0, 1) := by decide +kernel
theorem dX7_read_212 : decode cX7_read 212 = .ok (.aload_n 0, 1) := by decide +kernel
theorem dX7_read_213 : decode cX7_read 213 = .ok (.getfield 89, 3) := by decide +kernel
theorem dX7_read_216 : decode cX7_read 216 = .ok (.iload 8, 2) := by decide +kernel
theorem dX7_read_218 : decode cX7_read 218 = .ok (.iaload, 1) := by decide +kernel
theorem dX7_read_219 : decode cX7_read 219 = .ok (.aload_n 0, 1) := by decide +kernel
theorem dX7_read_220 : decode cX7_read 220 = .ok (.getfield 89, 3) := by decide +kernel
theorem dX7_read_223 : decode cX7_read 223 = .ok (.iload 8, 2) := by decide +kernel
theorem dX7_read_225 : decode cX7_read 225 = .ok (.iconst 1, 1) := by decide +kernel
theorem dX7_read_226 : decode cX7_read 226 = .ok (.iadd, 1) := by decide +kernel
theorem dX7_read_227 : decode cX7_read 227 = .ok (.iaload, 1) := by decide +kernel
theorem dX7_read_228 : decode cX7_read 228 = .ok (.aload_n 0, 1) := by decide +kernel
theorem dX7_read_229 : decode cX7_read 229 = .ok (.getfield 89, 3) := by decide +kernel
theorem dX7_read_232 : decode cX7_read 232 = .ok (.iload 8, 2) := by decide +kernel
theorem dX7_read_234 : decode cX7_read 234 = .ok (.iconst 2, 1) := by decide +kernel
theorem dX7_read_235 : decode cX7_read 235 = .ok (.iadd, 1) := by decide +kernel
theorem dX7_read_236 : decode cX7_read 236 = .ok (.iaload, 1) := by decide +kernel
theorem dX7_read_237 : decode cX7_read 237 = .ok (.aload_n 0, 1) := by decide +kernel
theorem dX7_read_238 : decode cX7_read 238 = .ok (.getfield 89, 3) := by decide +kernel
theorem dX7_read_241 : decode cX7_read 241 = .ok (.iload 8, 2) := by decide +kernel
theorem dX7_read_243 : decode cX7_read 243 = .ok (.iconst 3, 1) := by decide +kernel
theorem dX7_read_244 : decode cX7_read 244 = .ok (.iadd, 1) := by decide +kernel
theorem dX7_read_245 : decode cX7_read 245 = .ok (.iaload, 1) := by decide +kernel
theorem dX7_read_246 : decode cX7_read 246 = .ok (.invokevirtual 242, 3) := by decide +kernel
theorem dX7_read_249 : decode cX7_read 249 = .ok (.iinc 7 1, 3) := by decide +kernel
theorem dX7_read_252 : decode cX7_read 252 = .ok (.goto (-61), 3) := by decide +kernel
theorem dX7_read_255 : decode cX7_read 255 = .ok (.aload_n 0, 1) := by decide +kernel
theorem dX7_read_256 : decode cX7_read 256 = .ok (.iload 5, 2) := by decide +kernel
theorem dX7_read_258 : decode cX7_read 258 = .ok (.putfield 333, 3) := by decide +kernel
theorem dX7_read_261 : decode cX7_read 261 = .ok (.iload 6, 2) := by decide +kernel
theorem dX7_read_263 : decode cX7_read 263 = .ok (.ireturn, 1) := by decide +kernel
theorem dX7_lost_0 : decode cX7_lost 0 = .ok (.aload_n 0, 1) := by decide +kernel
theorem dX7_lost_1 : decode cX7_lost 1 = .ok (.getfield 333, 3) := by decide +kernel
theorem dX7_lost_4 : decode cX7_lost 4 = .ok (.ireturn, 1) := by decide +kernel
theorem dX7_count_0 : decode cX7_count 0 = .ok (.iconst 0, 1) := by decide +kernel
theorem dX7_count_1 : decode cX7_count 1 = .ok (.istore_n 2, 1) := by decide +kernel
theorem dX7_count_2 : decode cX7_count 2 = .ok (.iconst 0, 1) := by decide +kernel
theorem dX7_count_3 : decode cX7_count 3 = .ok (.istore_n 3, 1) := by decide +kernel
theorem dX7_count_4 : decode cX7_count 4 = .ok (.iconst 0, 1) := by decide +kernel
theorem dX7_count_5 : decode cX7_count 5 = .ok (.istore 4, 2) := by decide +kernel
theorem dX7_count_7 : decode cX7_count 7 = .ok (.iconst 0, 1) := by decide +kernel
theorem dX7_count_8 : decode cX7_count 8 = .ok (.istore 5, 2) := by decide +kernel
theorem dX7_count_10 : decode cX7_count 10 = .ok (.iconst 0, 1) := by decide +kernel
theorem dX7_count_11 : decode cX7_count 11 = .ok (.istore 6, 2) := by decide +kernel
theorem dX7_count_13 : decode cX7_count 13 = .ok (.iconst 0, 1) := by decide +kernel
theorem dX7_count_14 : decode cX7_count 14 = .ok (.istore 7, 2) := by decide +kernel
theorem dX7_count_16 : decode cX7_count 16 = .ok (.iload 7, 2) := by decide +kernel
theorem dX7_count_18 : decode cX7_count 18 = .ok (.aload_n 0, 1) := by decide +kernel
theorem dX7_count_19 : decode cX7_count 19 = .ok (.getfield 98, 3) := by decide +kernel
theorem dX7_count_22 : decode cX7_count 22 = .ok (.if_icmp .ge 64, 3) := by decide +kernel
theorem dX7_count_25 : decode cX7_count 25 = .ok (.iload_n 2, 1) := by decide +kernel
theorem dX7_count_26 : decode cX7_count 26 = .ok (.aload_n 0, 1) := by decide +kernel
theorem dX7_count_27 : decode cX7_count 27 = .ok (.getfield 13, 3) := by decide +kernel
theorem dX7_count_30 : decode cX7_count 30 = .ok (.iload 7, 2) := by decide +kernel
theorem dX7_count_32 : decode cX7_count 32 = .ok (.baload, 1) := by decide +kernel
theorem dX7_count_33 : decode cX7_count 33 = .ok (.ifCond .eq 7, 3) := by decide +kernel
theorem dX7_count_36 : decode cX7_count 36 = .ok (.iconst 1, 1) := by decide +kernel
theorem dX7_count_37 : decode cX7_count 37 = .ok (.goto 4, 3) := by decide +kernel
theorem dX7_count_40 : decode cX7_count 40 = .ok (.iconst 0, 1) := by decide +kernel
theorem dX7_count_41 : decode cX7_count 41 = .ok (.iadd, 1) := by decide +kernel
theorem dX7_count_42 : decode cX7_count 42 = .ok (.istore_n 2, 1) := by decide +kernel
theorem dX7_count_43 : decode cX7_count 43 = .ok (.iload_n 3, 1) := by decide +kernel
theorem dX7_count_44 : decode cX7_count 44 = .ok (.aload_n 0, 1) := by decide +kernel
theorem dX7_count_45 : decode cX7_count 45 = .ok (.getfield 17, 3) := by decide +kernel
theorem dX7_count_48 : decode cX7_count 48 = .ok (.iload 7, 2) := by decide +kernel
theorem dX7_count_50 : decode cX7_count 50 = .ok (.baload, 1) := by decide +kernel
theorem dX7_count_51 : decode cX7_count 51 = .ok (.ifCond .eq 7, 3) := by decide +kernel
theorem dX7_count_54 : decode cX7_count 54 = .ok (.iconst 1, 1) := by decide +kernel
theorem dX7_count_55 : decode cX7_count 55 = .ok (.goto 4, 3) := by decide +kernel
theorem dX7_count_58 : decode cX7_count 58 = .ok (.iconst 0, 1) := by decide +kernel
theorem dX7_count_59 : decode cX7_count 59 = .ok (.iadd, 1) := by decide +kernel
theorem dX7_count_60 : decode cX7_count 60 = .ok (.istore_n 3, 1) := by decide +kernel
theorem dX7_count_61 : decode cX7_count 61 = .ok (.iload 4, 2) := by decide +kernel
theorem dX7_count_63 : decode cX7_count 63 = .ok (.aload_n 0, 1) := by decide +kernel
theorem dX7_count_64 : decode cX7_count 64 = .ok (.iload 7, 2) := by decide +kernel
theorem dX7_count_66 : decode cX7_count 66 = .ok (.invokevirtual 128, 3) := by decide +kernel
theorem dX7_count_69 : decode cX7_count 69 = .ok (.ifCond .eq 7, 3) := by decide +kernel
theorem dX7_count_72 : decode cX7_count 72 = .ok (.iconst 1, 1) := by decide +kernel
theorem dX7_count_73 : decode cX7_count 73 = .ok (.goto 4, 3) := by decide +kernel
theorem dX7_count_76 : decode cX7_count 76 = .ok (.iconst 0, 1) := by decide +kernel
theorem dX7_count_77 : decode cX7_count 77 = .ok (.iadd, 1) := by decide +kernel
theorem dX7_count_78 : decode cX7_count 78 = .ok (.istore 4, 2) := by decide +kernel
theorem dX7_count_80 : decode cX7_count 80 = .ok (.iinc 7 1, 3) := by decide +kernel
theorem dX7_count_83 : decode cX7_count 83 = .ok (.goto (-67), 3) := by decide +kernel
theorem dX7_count_86 : decode cX7_count 86 = .ok (.iconst 0, 1) := by decide +kernel
theorem dX7_count_87 : decode cX7_count 87 = .ok (.istore 7, 2) := by decide +kernel
theorem dX7_count_89 : decode cX7_count 89 = .ok (.iload 7, 2) := by decide +kernel
theorem dX7_count_91 : decode cX7_count 91 = .ok (.aload_n 0, 1) := by decide +kernel
theorem dX7_count_92 : decode cX7_count 92 = .ok (.getfield 121, 3) := by decide +kernel
theorem dX7_count_95 : decode cX7_count 95 = .ok (.if_icmp .ge 28, 3) := by decide +kernel
theorem dX7_count_98 : decode cX7_count 98 = .ok (.iload 5, 2) := by decide +kernel
theorem dX7_count_100 : decode cX7_count 100 = .ok (.aload_n 0, 1) := by decide +kernel
theorem dX7_count_101 : decode cX7_count 101 = .ok (.iload 7, 2) := by decide +kernel
theorem dX7_count_103 : decode cX7_count 103 = .ok (.invokevirtual 136, 3) := by decide +kernel
theorem dX7_count_106 : decode cX7_count 106 = .ok (.ifCond .le 7, 3) := by decide +kernel
theorem dX7_count_109 : decode cX7_count 109 = .ok (.iconst 1, 1) := by decide +kernel
theorem dX7_count_110 : decode cX7_count 110 = .ok (.goto 4, 3) := by decide +kernel
theorem dX7_count_113 : decode cX7_count 113 = .ok (.iconst 0, 1) := by decide +kernel
theorem dX7_count_114 : decode cX7_count 114 = .ok (.iadd, 1) := by decide +kernel
theorem dX7_count_115 : decode cX7_count 115 = .ok (.istore 5, 2) := by decide +kernel
theorem dX7_count_117 : decode cX7_count 117 = .ok (.iinc 7 1, 3) := by decide +kernel
theorem dX7_count_120 : decode cX7_count 120 = .ok (.goto (-31), 3) := by decide +kernel
theorem dX7_count_123 : decode cX7_count 123 = .ok (.iconst 0, 1) := by decide +kernel
theorem dX7_count_124 : decode cX7_count 124 = .ok (.istore 7, 2) := by decide +kernel
theorem dX7_count_126 : decode cX7_count 126 = .ok (.iload 7, 2) := by decide +kernel
theorem dX7_count_128 : decode cX7_count 128 = .ok (.aload_n 0, 1) := by decide +kernel
theorem dX7_count_129 : decode cX7_count 129 = .ok (.getfield 235, 3) := by decide +kernel
theorem dX7_count_132 : decode cX7_count 132 = .ok (.if_icmp .ge 28, 3) := by decide +kernel
theorem dX7_count_135 : decode cX7_count 135 = .ok (.iload 6, 2) := by decide +kernel
theorem dX7_count_137 : decode cX7_count 137 = .ok (.aload_n 0, 1) := by decide +kernel
theorem dX7_count_138 : decode cX7_count 138 = .ok (.iload 7, 2) := by decide +kernel
theorem dX7_count_140 : decode cX7_count 140 = .ok (.invokevirtual 249, 3) := by decide +kernel
theorem dX7_count_143 : decode cX7_count 143 = .ok (.ifCond .eq 7, 3) := by decide +kernel
theorem dX7_count_146 : decode cX7_count 146 = .ok (.iconst 1, 1) := by decide +kernel
theorem dX7_count_147 : decode cX7_count 147 = .ok (.goto 4, 3) := by decide +kernel
theorem dX7_count_150 : decode cX7_count 150 = .ok (.iconst 0, 1) := by decide +kernel
theorem dX7_count_151 : decode cX7_count 151 = .ok (.iadd, 1) := by decide +kernel
theorem dX7_count_152 : decode cX7_count 152 = .ok (.istore 6, 2) := by decide +kernel
theorem dX7_count_154 : decode cX7_count 154 = .ok (.iinc 7 1, 3) := by decide +kernel
theorem dX7_count_157 : decode cX7_count 157 = .ok (.goto (-31), 3) := by decide +kernel
theorem dX7_count_160 : decode cX7_count 160 = .ok (.iload_n 1, 1) := by decide +kernel
theorem dX7_count_161 : decode cX7_count 161 = .ok (.tableswitch 120 0 10 #[59, 64, 66, 68, 71, 76, 79, 84, 87, 92, 97], 59) := by decide +kernel
theorem dX7_count_220 : decode cX7_count 220 = .ok (.aload_n 0, 1) := by decide +kernel
theorem dX7_count_221 : decode cX7_count 221 = .ok (.getfield 98, 3) := by decide +kernel
theorem dX7_count_224 : decode cX7_count 224 = .ok (.ireturn, 1) := by decide +kernel
theorem dX7_count_225 : decode cX7_count 225 = .ok (.iload_n 2, 1) := by decide +kernel
theorem dX7_count_226 : decode cX7_count 226 = .ok (.ireturn, 1) := by decide +kernel
theorem dX7_count_227 : decode cX7_count 227 = .ok (.iload_n 3, 1) := by decide +kernel
theorem dX7_count_228 : decode cX7_count 228 = .ok (.ireturn, 1) := by decide +kernel
theorem dX7_count_229 : decode cX7_count 229 = .ok (.iload 4, 2) := by decide +kernel
theorem dX7_count_231 : decode cX7_count 231 = .ok (.ireturn, 1) := by decide +kernel
theorem dX7_count_232 : decode cX7_count 232 = .ok (.aload_n 0, 1) := by decide +kernel
theorem dX7_count_233 : decode cX7_count 233 = .ok (.getfield 121, 3) := by decide +kernel
theorem dX7_count_236 : decode cX7_count 236 = .ok (.ireturn, 1) := by decide +kernel
theorem dX7_count_237 : decode cX7_count 237 = .ok (.iload 5, 2) := by decide +kernel
theorem dX7_count_239 : decode cX7_count 239 = .ok (.ireturn, 1) := by decide +kernel
theorem dX7_count_240 : decode cX7_count 240 = .ok (.aload_n 0, 1) := by decide +kernel
theorem dX7_count_241 : decode cX7_count 241 = .ok (.getfield 235, 3) := by decide +kernel
theorem dX7_count_244 : decode cX7_count 244 = .ok (.ireturn, 1) := by decide +kernel
theorem dX7_count_245 : decode cX7_count 245 = .ok (.iload 6, 2) := by decide +kernel
theorem dX7_count_247 : decode cX7_count 247 = .ok (.ireturn, 1) := by decide +kernel
theorem dX7_count_248 : decode cX7_count 248 = .ok (.aload_n 0, 1) := by decide +kernel
theorem dX7_count_249 : decode cX7_count 249 = .ok (.getfield 106, 3) := by decide +kernel
theorem dX7_count_252 : decode cX7_count 252 = .ok (.ireturn, 1) := by decide +kernel
theorem dX7_count_253 : decode cX7_count 253 = .ok (.aload_n 0, 1) := by decide +kernel
theorem dX7_count_254 : decode cX7_count 254 = .ok (.getfield 149, 3) := by decide +kernel
theorem dX7_count_257 : decode cX7_count 257 = .ok (.ireturn, 1) := by decide +kernel
theorem dX7_count_258 : decode cX7_count 258 = .ok (.aload_n 0, 1) := by decide +kernel
theorem dX7_count_259 : decode cX7_count 259 = .ok (.getfield 83, 3) := by decide +kernel
theorem dX7_count_262 : decode cX7_count 262 = .ok (.iconst 0, 1) := by decide +kernel
theorem dX7_count_263 : decode cX7_count 263 = .ok (.iaload, 1) := by decide +kernel
theorem dX7_count_264 : decode cX7_count 264 = .ok (.bipush (-4), 2) := by decide +kernel
theorem dX7_count_266 : decode cX7_count 266 = .ok (.if_icmp .ne 8, 3) := by decide +kernel
theorem dX7_count_269 : decode cX7_count 269 = .ok (.bipush (-4), 2) := by decide +kernel
theorem dX7_count_271 : decode cX7_count 271 = .ok (.goto 9, 3) := by decide +kernel
theorem dX7_count_274 : decode cX7_count 274 = .ok (.aload_n 0, 1) := by decide +kernel
theorem dX7_count_275 : decode cX7_count 275 = .ok (.getfield 86, 3) := by decide +kernel
theorem dX7_count_278 : decode cX7_count 278 = .ok (.iconst 0, 1) := by decide +kernel
theorem dX7_count_279 : decode cX7_count 279 = .ok (.iaload, 1) := by decide +kernel
theorem dX7_count_280 : decode cX7_count 280 = .ok (.ireturn, 1) := by decide +kernel
theorem dX7_count_281 : decode cX7_count 281 = .ok (.iconst (-1), 1) := by decide +kernel
theorem dX7_count_282 : decode cX7_count 282 = .ok (.ireturn, 1) := by decide +kernel
theorem dJ6_bitCount_0f7a4_0 : decode cJ6_bitCount_0f7a4 0 = .ok (.iload_n 0, 1) := by decide +kernel
theorem dJ6_bitCount_0f7a4_1 : decode cJ6_bitCount_0f7a4 1 = .ok (.iload_n 0, 1) := by decide +kernel
theorem dJ6_bitCount_0f7a4_2 : decode cJ6_bitCount_0f7a4 2 = .ok (.iconst 1, 1) := by decide +kernel
theorem dJ6_bitCount_0f7a4_3 : decode cJ6_bitCount_0f7a4 3 = .ok (.iushr, 1) := by decide +kernel
theorem dJ6_bitCount_0f7a4_4 : decode cJ6_bitCount_0f7a4 4 = .ok (.ldc_w 265, 3) := by decide +kernel
theorem dJ6_bitCount_0f7a4_7 : decode cJ6_bitCount_0f7a4 7 = .ok (.iand, 1) := by decide +kernel
theorem dJ6_bitCount_0f7a4_8 : decode cJ6_bitCount_0f7a4 8 = .ok (.isub, 1) := by decide +kernel
theorem dJ6_bitCount_0f7a4_9 : decode cJ6_bitCount_0f7a4 9 = .ok (.istore_n 0, 1) := by decide +kernel
theorem dJ6_bitCount_0f7a4_10 : decode cJ6_bitCount_0f7a4 10 = .ok (.iload_n 0, 1) := by decide +kernel
theorem dJ6_bitCount_0f7a4_11 : decode cJ6_bitCount_0f7a4 11 = .ok (.ldc_w 266, 3) := by decide +kernel
theorem dJ6_bitCount_0f7a4_14 : decode cJ6_bitCount_0f7a4 14 = .ok (.iand, 1) := by decide +kernel
theorem dJ6_bitCount_0f7a4_15 : decode cJ6_bitCount_0f7a4 15 = .ok (.iload_n 0, 1) := by decide +kernel
theorem dJ6_bitCount_0f7a4_16 : decode cJ6_bitCount_0f7a4 16 = .ok (.iconst 2, 1) := by decide +kernel
theorem dJ6_bitCount_0f7a4_17 : decode cJ6_bitCount_0f7a4 17 = .ok (.iushr, 1) := by decide +kernel
theorem dJ6_bitCount_0f7a4_18 : decode cJ6_bitCount_0f7a4 18 = .ok (.ldc_w 266, 3) := by decide +kernel
theorem dJ6_bitCount_0f7a4_21 : decode cJ6_bitCount_0f7a4 21 = .ok (.iand, 1) := by decide +kernel
theorem dJ6_bitCount_0f7a4_22 : decode cJ6_bitCount_0f7a4 22 = .ok (.iadd, 1) := by decide +kernel
theorem dJ6_bitCount_0f7a4_23 : decode cJ6_bitCount_0f7a4 23 = .ok (.istore_n 0, 1) := by decide +kernel
theorem dJ6_bitCount_0f7a4_24 : decode cJ6_bitCount_0f7a4 24 = .ok (.iload_n 0, 1) := by decide +kernel
theorem dJ6_bitCount_0f7a4_25 : decode cJ6_bitCount_0f7a4 25 = .ok (.iload_n 0, 1) := by decide +kernel
theorem dJ6_bitCount_0f7a4_26 : decode cJ6_bitCount_0f7a4 26 = .ok (.iconst 4, 1) := by decide +kernel
theorem dJ6_bitCount_0f7a4_27 : decode cJ6_bitCount_0f7a4 27 = .ok (.iushr, 1) := by decide +kernel
theorem dJ6_bitCount_0f7a4_28 : decode cJ6_bitCount_0f7a4 28 = .ok (.iadd, 1) := by decide +kernel
theorem dJ6_bitCount_0f7a4_29 : decode cJ6_bitCount_0f7a4 29 = .ok (.ldc_w 267, 3) := by decide +kernel
theorem dJ6_bitCount_0f7a4_32 : decode cJ6_bitCount_0f7a4 32 = .ok (.iand, 1) := by decide +kernel
theorem dJ6_bitCount_0f7a4_33 : decode cJ6_bitCount_0f7a4 33 = .ok (.istore_n 0, 1) := by decide +kernel
theorem dJ6_bitCount_0f7a4_34 : decode cJ6_bitCount_0f7a4 34 = .ok (.iload_n 0, 1) := by decide +kernel
theorem dJ6_bitCount_0f7a4_35 : decode cJ6_bitCount_0f7a4 35 = .ok (.iload_n 0, 1) := by decide +kernel
theorem dJ6_bitCount_0f7a4_36 : decode cJ6_bitCount_0f7a4 36 = .ok (.bipush 8, 2) := by decide +kernel
theorem dJ6_bitCount_0f7a4_38 : decode cJ6_bitCount_0f7a4 38 = .ok (.iushr, 1) := by decide +kernel
theorem dJ6_bitCount_0f7a4_39 : decode cJ6_bitCount_0f7a4 39 = .ok (.iadd, 1) := by decide +kernel
theorem dJ6_bitCount_0f7a4_40 : decode cJ6_bitCount_0f7a4 40 = .ok (.istore_n 0, 1) := by decide +kernel
theorem dJ6_bitCount_0f7a4_41 : decode cJ6_bitCount_0f7a4 41 = .ok (.iload_n 0, 1) := by decide +kernel
theorem dJ6_bitCount_0f7a4_42 : decode cJ6_bitCount_0f7a4 42 = .ok (.iload_n 0, 1) := by decide +kernel
theorem dJ6_bitCount_0f7a4_43 : decode cJ6_bitCount_0f7a4 43 = .ok (.bipush 16, 2) := by decide +kernel
theorem dJ6_bitCount_0f7a4_45 : decode cJ6_bitCount_0f7a4 45 = .ok (.iushr, 1) := by decide +kernel
theorem dJ6_bitCount_0f7a4_46 : decode cJ6_bitCount_0f7a4 46 = .ok (.iadd, 1) := by decide +kernel
theorem dJ6_bitCount_0f7a4_47 : decode cJ6_bitCount_0f7a4 47 = .ok (.istore_n 0, 1) := by decide +kernel
theorem dJ6_bitCount_0f7a4_48 : decode cJ6_bitCount_0f7a4 48 = .ok (.iload_n 0, 1) := by decide +kernel
theorem dJ6_bitCount_0f7a4_49 : decode cJ6_bitCount_0f7a4 49 = .ok (.bipush 63, 2) := by decide +kernel
theorem dJ6_bitCount_0f7a4_51 : decode cJ6_bitCount_0f7a4 51 = .ok (.iand, 1) := by decide +kernel
theorem dJ6_bitCount_0f7a4_52 : decode cJ6_bitCount_0f7a4 52 = .ok (.ireturn, 1) := by decide +kernel
theorem dJ9_max_7cf53_0 : decode cJ9_max_7cf53 0 = .ok (.iload_n 0, 1) := by decide +kernel
theorem dJ9_max_7cf53_1 : decode cJ9_max_7cf53 1 = .ok (.iload_n 1, 1) := by decide +kernel
theorem dJ9_max_7cf53_2 : decode cJ9_max_7cf53 2 = .ok (.if_icmp .lt 7, 3) := by decide +kernel
theorem dJ9_max_7cf53_5 : decode cJ9_max_7cf53 5 = .ok (.iload_n 0, 1) := by decide +kernel
theorem dJ9_max_7cf53_6 : decode cJ9_max_7cf53 6 = .ok (.goto 4, 3) := by decide +kernel
theorem dJ9_max_7cf53_9 : decode cJ9_max_7cf53 9 = .ok (.iload_n 1, 1) := by decide +kernel
theorem dJ9_max_7cf53_10 : decode cJ9_max_7cf53 10 = .ok (.ireturn, 1) := by decide +kernel
theorem dJ9_max_f86c9_0 : decode cJ9_max_f86c9 0 = .ok (.lload_n 0, 1) := by decide +kernel
theorem dJ9_max_f86c9_1 : decode cJ9_max_f86c9 1 = .ok (.lload_n 2, 1) := by decide +kernel
theorem dJ9_max_f86c9_2 : decode cJ9_max_f86c9 2 = .ok (.lcmp, 1) := by decide +kernel
theorem dJ9_max_f86c9_3 : decode cJ9_max_f86c9 3 = .ok (.ifCond .lt 7, 3) := by decide +kernel
theorem dJ9_max_f86c9_6 : decode cJ9_max_f86c9 6 = .ok (.lload_n 0, 1) := by decide +kernel
theorem dJ9_max_f86c9_7 : decode cJ9_max_f86c9 7 = .ok (.goto 4, 3) := by decide +kernel
theorem dJ9_max_f86c9_10 : decode cJ9_max_f86c9 10 = .ok (.lload_n 2, 1) := by decide +kernel
theorem dJ9_max_f86c9_11 : decode cJ9_max_f86c9 11 = .ok (.lreturn, 1) := by decide +kernel
theorem dJ9_min_7cf53_0 : decode cJ9_min_7cf53 0 = .ok (.iload_n 0, 1) := by decide +kernel
theorem dJ9_min_7cf53_1 : decode cJ9_min_7cf53 1 = .ok (.iload_n 1, 1) := by decide +kernel
theorem dJ9_min_7cf53_2 : decode cJ9_min_7cf53 2 = .ok (.if_icmp .gt 7, 3) := by decide +kernel
theorem dJ9_min_7cf53_5 : decode cJ9_min_7cf53 5 = .ok (.iload_n 0, 1) := by decide +kernel
theorem dJ9_min_7cf53_6 : decode cJ9_min_7cf53 6 = .ok (.goto 4, 3) := by decide +kernel
theorem dJ9_min_7cf53_9 : decode cJ9_min_7cf53 9 = .ok (.iload_n 1, 1) := by decide +kernel
theorem dJ9_min_7cf53_10 : decode cJ9_min_7cf53 10 = .ok (.ireturn, 1) := by decide +kernel
theorem dJ0_length_8abf5_0 : decode cJ0_length_8abf5 0 = .ok (.aload_n 0, 1) := by decide +kernel
theorem dJ0_length_8abf5_1 : decode cJ0_length_8abf5 1 = .ok (.getfield 9, 3) := by decide +kernel
theorem dJ0_length_8abf5_4 : decode cJ0_length_8abf5 4 = .ok (.arraylength, 1) := by decide +kernel
theorem dJ0_length_8abf5_5 : decode cJ0_length_8abf5 5 = .ok (.aload_n 0, 1) := by decide +kernel
theorem dJ0_length_8abf5_6 : decode cJ0_length_8abf5 6 = .ok (.invokevirtual 335, 3) := by decide +kernel
theorem dJ0_length_8abf5_9 : decode cJ0_length_8abf5 9 = .ok (.ishr, 1) := by decide +kernel
theorem dJ0_length_8abf5_10 : decode cJ0_length_8abf5 10 = .ok (.ireturn, 1) := by decide +kernel
theorem dJ0_charAt_5068e_0 : decode cJ0_charAt_5068e 0 = .ok (.aload_n 0, 1) := by decide +kernel
theorem dJ0_charAt_5068e_1 : decode cJ0_charAt_5068e 1 = .ok (.invokevirtual 492, 3) := by decide +kernel
theorem dJ0_charAt_5068e_4 : decode cJ0_charAt_5068e 4 = .ok (.ifCond .eq 12, 3) := by decide +kernel
theorem dJ0_charAt_5068e_7 : decode cJ0_charAt_5068e 7 = .ok (.aload_n 0, 1) := by decide +kernel
theorem dJ0_charAt_5068e_8 : decode cJ0_charAt_5068e 8 = .ok (.getfield 9, 3) := by decide +kernel
theorem dJ0_charAt_5068e_11 : decode cJ0_charAt_5068e 11 = .ok (.iload_n 1, 1) := by decide +kernel
theorem dJ0_charAt_5068e_12 : decode cJ0_charAt_5068e 12 = .ok (.invokestatic 495, 3) := by decide +kernel
theorem dJ0_charAt_5068e_15 : decode cJ0_charAt_5068e 15 = .ok (.ireturn, 1) := by decide +kernel
theorem dJ0_charAt_5068e_16 : decode cJ0_charAt_5068e 16 = .ok (.aload_n 0, 1) := by decide +kernel
theorem dJ0_charAt_5068e_17 : decode cJ0_charAt_5068e 17 = .ok (.getfield 9, 3) := by decide +kernel
theorem dJ0_charAt_5068e_20 : decode cJ0_charAt_5068e 20 = .ok (.iload_n 1, 1) := by decide +kernel
theorem dJ0_charAt_5068e_21 : decode cJ0_charAt_5068e 21 = .ok (.invokestatic 498, 3) := by decide +kernel
theorem dJ0_charAt_5068e_24 : decode cJ0_charAt_5068e 24 = .ok (.ireturn, 1) := by decide +kernel
theorem dJ0_coder_7d493_0 : decode cJ0_coder_7d493 0 = .ok (.getstatic 38, 3) := by decide +kernel
theorem dJ0_coder_7d493_3 : decode cJ0_coder_7d493 3 = .ok (.ifCond .eq 10, 3) := by decide +kernel
theorem dJ0_coder_7d493_6 : decode cJ0_coder_7d493 6 = .ok (.aload_n 0, 1) := by decide +kernel
theorem dJ0_coder_7d493_7 : decode cJ0_coder_7d493 7 = .ok (.getfield 15, 3) := by decide +kernel
theorem dJ0_coder_7d493_10 : decode cJ0_coder_7d493 10 = .ok (.goto 4, 3) := by decide +kernel
theorem dJ0_coder_7d493_13 : decode cJ0_coder_7d493 13 = .ok (.iconst 1, 1) := by decide +kernel
theorem dJ0_coder_7d493_14 : decode cJ0_coder_7d493 14 = .ok (.ireturn, 1) := by decide +kernel
theorem dJ0_isLatin1_aae02_0 : decode cJ0_isLatin1_aae02 0 = .ok (.getstatic 38, 3) := by decide +kernel
theorem dJ0_isLatin1_aae02_3 : decode cJ0_isLatin1_aae02 3 = .ok (.ifCond .eq 14, 3) := by decide +kernel
theorem dJ0_isLatin1_aae02_6 : decode cJ0_isLatin1_aae02 6 = .ok (.aload_n 0, 1) := by decide +kernel
theorem dJ0_isLatin1_aae02_7 : decode cJ0_isLatin1_aae02 7 = .ok (.getfield 15, 3) := by decide +kernel
theorem dJ0_isLatin1_aae02_10 : decode cJ0_isLatin1_aae02 10 = .ok (.ifCond .ne 7, 3) := by decide +kernel
theorem dJ0_isLatin1_aae02_13 : decode cJ0_isLatin1_aae02 13 = .ok (.iconst 1, 1) := by decide +kernel
theorem dJ0_isLatin1_aae02_14 : decode cJ0_isLatin1_aae02 14 = .ok (.goto 4, 3) := by decide +kernel
theorem dJ0_isLatin1_aae02_17 : decode cJ0_isLatin1_aae02 17 = .ok (.iconst 0, 1) := by decide +kernel
theorem dJ0_isLatin1_aae02_18 : decode cJ0_isLatin1_aae02 18 = .ok (.ireturn, 1) := by decide +kernel
theorem dJ0_checkIndex_df160_0 : decode cJ0_checkIndex_df160 0 = .ok (.iload_n 0, 1) := by decide +kernel
theorem dJ0_checkIndex_df160_1 : decode cJ0_checkIndex_df160 1 = .ok (.iload_n 1, 1) := by decide +kernel
theorem dJ0_checkIndex_df160_2 : decode cJ0_checkIndex_df160 2 = .ok (.getstatic 1053, 3) := by decide +kernel
theorem dJ0_checkIndex_df160_5 : decode cJ0_checkIndex_df160 5 = .ok (.invokestatic 1059, 3) := by decide +kernel
theorem dJ0_checkIndex_df160_8 : decode cJ0_checkIndex_df160 8 = .ok (.pop, 1) := by decide +kernel
theorem dJ0_checkIndex_df160_9 : decode cJ0_checkIndex_df160 9 = .ok (.return_, 1) := by decide +kernel
theorem dJ1_charAt_3b067_0 : decode cJ1_charAt_3b067 0 = .ok (.iload_n 1, 1) := by decide +kernel
theorem dJ1_charAt_3b067_1 : decode cJ1_charAt_3b067 1 = .ok (.aload_n 0, 1) := by decide +kernel
theorem dJ1_charAt_3b067_2 : decode cJ1_charAt_3b067 2 = .ok (.arraylength, 1) := by decide +kernel
theorem dJ1_charAt_3b067_3 : decode cJ1_charAt_3b067 3 = .ok (.invokestatic 9, 3) := by decide +kernel
theorem dJ1_charAt_3b067_6 : decode cJ1_charAt_3b067 6 = .ok (.aload_n 0, 1) := by decide +kernel
theorem dJ1_charAt_3b067_7 : decode cJ1_charAt_3b067 7 = .ok (.iload_n 1, 1) := by decide +kernel
theorem dJ1_charAt_3b067_8 : decode cJ1_charAt_3b067 8 = .ok (.baload, 1) := by decide +kernel
theorem dJ1_charAt_3b067_9 : decode cJ1_charAt_3b067 9 = .ok (.sipush 255, 3) := by decide +kernel
theorem dJ1_charAt_3b067_12 : decode cJ1_charAt_3b067 12 = .ok (.iand, 1) := by decide +kernel
theorem dJ1_charAt_3b067_13 : decode cJ1_charAt_3b067 13 = .ok (.i2c, 1) := by decide +kernel
theorem dJ1_charAt_3b067_14 : decode cJ1_charAt_3b067 14 = .ok (.ireturn, 1) := by decide +kernel
theorem dJ2_getChar_3b067_0 : decode cJ2_getChar_3b067 0 = .ok (.getstatic 44, 3) := by decide +kernel
theorem dJ2_getChar_3b067_3 : decode cJ2_getChar_3b067 3 = .ok (.ifCond .ne 25, 3) := by decide +kernel
theorem dJ2_getChar_3b067_6 : decode cJ2_getChar_3b067 6 = .ok (.iload_n 1, 1) := by decide +kernel
theorem dJ2_getChar_3b067_7 : decode cJ2_getChar_3b067 7 = .ok (.ifCond .lt 11, 3) := by decide +kernel
theorem dJ2_getChar_3b067_10 : decode cJ2_getChar_3b067 10 = .ok (.iload_n 1, 1) := by decide +kernel
theorem dJ2_getChar_3b067_11 : decode cJ2_getChar_3b067 11 = .ok (.aload_n 0, 1) := by decide +kernel
theorem dJ2_getChar_3b067_12 : decode cJ2_getChar_3b067 12 = .ok (.invokestatic 48, 3) := by decide +kernel
theorem dJ2_getChar_3b067_15 : decode cJ2_getChar_3b067 15 = .ok (.if_icmp .lt 13, 3) := by decide +kernel
theorem dJ2_getChar_3b067_18 : decode cJ2_getChar_3b067 18 = .ok (.new 52, 3) := by decide +kernel
theorem dJ2_getChar_3b067_21 : decode cJ2_getChar_3b067 21 = .ok (.dup, 1) := by decide +kernel
theorem dJ2_getChar_3b067_22 : decode cJ2_getChar_3b067 22 = .ok (.ldc 54, 2) := by decide +kernel
theorem dJ2_getChar_3b067_24 : decode cJ2_getChar_3b067 24 = .ok (.invokespecial 56, 3) := by decide +kernel
theorem dJ2_getChar_3b067_27 : decode cJ2_getChar_3b067 27 = .ok (.athrow, 1) := by decide +kernel
theorem dJ2_getChar_3b067_28 : decode cJ2_getChar_3b067 28 = .ok (.iload_n 1, 1) := by decide +kernel
theorem dJ2_getChar_3b067_29 : decode cJ2_getChar_3b067 29 = .ok (.iconst 1, 1) := by decide +kernel
theorem dJ2_getChar_3b067_30 : decode cJ2_getChar_3b067 30 = .ok (.ishl, 1) := by decide +kernel
theorem dJ2_getChar_3b067_31 : decode cJ2_getChar_3b067 31 = .ok (.istore_n 1, 1) := by decide +kernel
theorem dJ2_getChar_3b067_32 : decode cJ2_getChar_3b067 32 = .ok (.aload_n 0, 1) := by decide +kernel
theorem dJ2_getChar_3b067_33 : decode cJ2_getChar_3b067 33 = .ok (.iload_n 1, 1) := by decide +kernel
theorem dJ2_getChar_3b067_34 : decode cJ2_getChar_3b067 34 = .ok (.iinc 1 1, 3) := by decide +kernel
theorem dJ2_getChar_3b067_37 : decode cJ2_getChar_3b067 37 = .ok (.baload, 1) := by decide +kernel
theorem dJ2_getChar_3b067_38 : decode cJ2_getChar_3b067 38 = .ok (.sipush 255, 3) := by decide +kernel
theorem dJ2_getChar_3b067_41 : decode cJ2_getChar_3b067 41 = .ok (.iand, 1) := by decide +kernel
theorem dJ2_getChar_3b067_42 : decode cJ2_getChar_3b067 42 = .ok (.getstatic 59, 3) := by decide +kernel
theorem dJ2_getChar_3b067_45 : decode cJ2_getChar_3b067 45 = .ok (.ishl, 1) := by decide +kernel
theorem dJ2_getChar_3b067_46 : decode cJ2_getChar_3b067 46 = .ok (.aload_n 0, 1) := by decide +kernel
theorem dJ2_getChar_3b067_47 : decode cJ2_getChar_3b067 47 = .ok (.iload_n 1, 1) := by decide +kernel
theorem dJ2_getChar_3b067_48 : decode cJ2_getChar_3b067 48 = .ok (.baload, 1) := by decide +kernel
theorem dJ2_getChar_3b067_49 : decode cJ2_getChar_3b067 49 = .ok (.sipush 255, 3) := by decide +kernel
theorem dJ2_getChar_3b067_52 : decode cJ2_getChar_3b067 52 = .ok (.iand, 1) := by decide +kernel
theorem dJ2_getChar_3b067_53 : decode cJ2_getChar_3b067 53 = .ok (.getstatic 63, 3) := by decide +kernel
theorem dJ2_getChar_3b067_56 : decode cJ2_getChar_3b067 56 = .ok (.ishl, 1) := by decide +kernel
theorem dJ2_getChar_3b067_57 : decode cJ2_getChar_3b067 57 = .ok (.ior, 1) := by decide +kernel
theorem dJ2_getChar_3b067_58 : decode cJ2_getChar_3b067 58 = .ok (.i2c, 1) := by decide +kernel
theorem dJ2_getChar_3b067_59 : decode cJ2_getChar_3b067 59 = .ok (.ireturn, 1) := by decide +kernel
theorem dJ2_length_9d52b_0 : decode cJ2_length_9d52b 0 = .ok (.aload_n 0, 1) := by decide +kernel
theorem dJ2_length_9d52b_1 : decode cJ2_length_9d52b 1 = .ok (.arraylength, 1) := by decide +kernel
theorem dJ2_length_9d52b_2 : decode cJ2_length_9d52b 2 = .ok (.iconst 1, 1) := by decide +kernel
theorem dJ2_length_9d52b_3 : decode cJ2_length_9d52b 3 = .ok (.ishr, 1) := by decide +kernel
theorem dJ2_length_9d52b_4 : decode cJ2_length_9d52b 4 = .ok (.ireturn, 1) := by decide +kernel
theorem dJ2_charAt_3b067_0 : decode cJ2_charAt_3b067 0 = .ok (.iload_n 1, 1) := by decide +kernel
theorem dJ2_charAt_3b067_1 : decode cJ2_charAt_3b067 1 = .ok (.aload_n 0, 1) := by decide +kernel
theorem dJ2_charAt_3b067_2 : decode cJ2_charAt_3b067 2 = .ok (.invokestatic 67, 3) := by decide +kernel
theorem dJ2_charAt_3b067_5 : decode cJ2_charAt_3b067 5 = .ok (.aload_n 0, 1) := by decide +kernel
theorem dJ2_charAt_3b067_6 : decode cJ2_charAt_3b067 6 = .ok (.iload_n 1, 1) := by decide +kernel
theorem dJ2_charAt_3b067_7 : decode cJ2_charAt_3b067 7 = .ok (.invokestatic 71, 3) := by decide +kernel
theorem dJ2_charAt_3b067_10 : decode cJ2_charAt_3b067 10 = .ok (.ireturn, 1) := by decide +kernel
theorem dJ2_checkIndex_2214a_0 : decode cJ2_checkIndex_2214a 0 = .ok (.iload_n 0, 1) := by decide +kernel
theorem dJ2_checkIndex_2214a_1 : decode cJ2_checkIndex_2214a 1 = .ok (.aload_n 1, 1) := by decide +kernel
theorem dJ2_checkIndex_2214a_2 : decode cJ2_checkIndex_2214a 2 = .ok (.invokestatic 48, 3) := by decide +kernel
theorem dJ2_checkIndex_2214a_5 : decode cJ2_checkIndex_2214a 5 = .ok (.invokestatic 414, 3) := by decide +kernel
theorem dJ2_checkIndex_2214a_8 : decode cJ2_checkIndex_2214a 8 = .ok (.return_, 1) := by decide +kernel
theorem dJ7_fill_53178_0 : decode cJ7_fill_53178 0 = .ok (.iconst 0, 1) := by decide +kernel
theorem dJ7_fill_53178_1 : decode cJ7_fill_53178 1 = .ok (.istore_n 2, 1) := by decide +kernel
theorem dJ7_fill_53178_2 : decode cJ7_fill_53178 2 = .ok (.aload_n 0, 1) := by decide +kernel
theorem dJ7_fill_53178_3 : decode cJ7_fill_53178 3 = .ok (.arraylength, 1) := by decide +kernel
theorem dJ7_fill_53178_4 : decode cJ7_fill_53178 4 = .ok (.istore_n 3, 1) := by decide +kernel
theorem dJ7_fill_53178_5 : decode cJ7_fill_53178 5 = .ok (.iload_n 2, 1) := by decide +kernel
theorem dJ7_fill_53178_6 : decode cJ7_fill_53178 6 = .ok (.iload_n 3, 1) := by decide +kernel
theorem dJ7_fill_53178_7 : decode cJ7_fill_53178 7 = .ok (.if_icmp .ge 13, 3) := by decide +kernel
theorem dJ7_fill_53178_10 : decode cJ7_fill_53178 10 = .ok (.aload_n 0, 1) := by decide +kernel
theorem dJ7_fill_53178_11 : decode cJ7_fill_53178 11 = .ok (.iload_n 2, 1) := by decide +kernel
theorem dJ7_fill_53178_12 : decode cJ7_fill_53178 12 = .ok (.iload_n 1, 1) := by decide +kernel
theorem dJ7_fill_53178_13 : decode cJ7_fill_53178 13 = .ok (.iastore, 1) := by decide +kernel
theorem dJ7_fill_53178_14 : decode cJ7_fill_53178 14 = .ok (.iinc 2 1, 3) := by decide +kernel
theorem dJ7_fill_53178_17 : decode cJ7_fill_53178 17 = .ok (.goto (-12), 3) := by decide +kernel
theorem dJ7_fill_53178_20 : decode cJ7_fill_53178 20 = .ok (.return_, 1) := by decide +kernel
theorem dJ3_checkIndex_8e157_0 : decode cJ3_checkIndex_8e157 0 = .ok (.iload_n 0, 1) := by decide +kernel
theorem dJ3_checkIndex_8e157_1 : decode cJ3_checkIndex_8e157 1 = .ok (.ifCond .lt 8, 3) := by decide +kernel
theorem dJ3_checkIndex_8e157_4 : decode cJ3_checkIndex_8e157 4 = .ok (.iload_n 0, 1) := by decide +kernel
theorem dJ3_checkIndex_8e157_5 : decode cJ3_checkIndex_8e157 5 = .ok (.iload_n 1, 1) := by decide +kernel
theorem dJ3_checkIndex_8e157_6 : decode cJ3_checkIndex_8e157 6 = .ok (.if_icmp .lt 10, 3) := by decide +kernel
theorem dJ3_checkIndex_8e157_9 : decode cJ3_checkIndex_8e157 9 = .ok (.aload_n 2, 1) := by decide +kernel
theorem dJ3_checkIndex_8e157_10 : decode cJ3_checkIndex_8e157 10 = .ok (.iload_n 0, 1) := by decide +kernel
theorem dJ3_checkIndex_8e157_11 : decode cJ3_checkIndex_8e157 11 = .ok (.iload_n 1, 1) := by decide +kernel
theorem dJ3_checkIndex_8e157_12 : decode cJ3_checkIndex_8e157 12 = .ok (.invokestatic 95, 3) := by decide +kernel
theorem dJ3_checkIndex_8e157_15 : decode cJ3_checkIndex_8e157 15 = .ok (.athrow, 1) := by decide +kernel
theorem dJ3_checkIndex_8e157_16 : decode cJ3_checkIndex_8e157 16 = .ok (.iload_n 0, 1) := by decide +kernel
theorem dJ3_checkIndex_8e157_17 : decode cJ3_checkIndex_8e157 17 = .ok (.ireturn, 1) := by decide +kernel
end
section
/-! THE WALKER. The cells of the system are fixed once its constructor has ended, and no reference ever changes: so a state is numbers alone.
SP: what a cell is (0: a row of ints, 1: of booleans, 2: of references, c + 3: an object of class c; its length; its fields: 0 int, 1 long, r + 2 the cell r).
HS: what the cells hold: (cell, place) to an int, (cell, place) to a long. Geo: the tables' numbers, the cells' addresses, the classes of rows. -/
def aw_fv (g : Geo) (h : HS) (i j f : Nat) : Value := match f with
  | 0 => .int (h.1 i j)
  | 1 => .long (h.2 i j)
  | r + 2 => .ref (g.2.1 r)
def aw_fs (g : Geo) (h : HS) (i : Nat) : Nat → List Nat → List Value
  | _, [] => []
  | j, f :: r => aw_fv g h i j f :: aw_fs g h i (j + 1) r
def aw_ce (g : Geo) (h : HS) (i : Nat) (sp : SP) : va_E := match sp.1 with
  | 0 => .inl (g.2.2.1, sp.2.1, .inl (h.1 i))
  | 1 => .inl (g.2.2.2.1, sp.2.1, .inl (h.1 i))
  | 2 => .inl (g.2.2.2.2, sp.2.1, .inr (.inr (.inr (.inr (fun k => (sp.2.2[k]?).map g.2.1)))))
  | c + 3 => .inr (c, aw_fs g h i 0 sp.2.2)
def aw_cz (g : Geo) (h : HS) : Nat → List SP → va_W
  | _, [] => []
  | i, sp :: r => (g.2.1 i, aw_ce g h i sp) :: aw_cz g h (i + 1) r
theorem aw_cz_get (g : Geo) (h : HS) : ∀ (lay : List SP) (b i : Nat), (aw_cz g h b lay)[i]? = (lay[i]?).map (fun sp => (g.2.1 (b + i), aw_ce g h (b + i) sp))
  | [], b, i => by simp [aw_cz]
  | sp :: r, b, 0 => by simp [aw_cz]
  | sp :: r, b, i + 1 => by
    simp only [aw_cz, List.getElem?_cons_succ]
    rw [aw_cz_get g h r (b + 1) i, show b + 1 + i = b + (i + 1) by omega]
theorem aw_cz_at {g : Geo} {h : HS} {lay : List SP} {i : Nat} {sp : SP} (hi : lay[i]? = some sp) : (aw_cz g h 0 lay)[i]? = some (g.2.1 i, aw_ce g h i sp) := by
  rw [aw_cz_get, hi, Nat.zero_add]
  rfl
theorem aw_fs_get (g : Geo) (h : HS) (i : Nat) : ∀ (fs : List Nat) (b j : Nat), (aw_fs g h i b fs)[j]? = (fs[j]?).map (fun f => aw_fv g h i (b + j) f)
  | [], b, j => by simp [aw_fs]
  | f :: r, b, 0 => by simp [aw_fs]
  | f :: r, b, j + 1 => by
    simp only [aw_fs, List.getElem?_cons_succ]
    rw [aw_fs_get g h i r (b + 1) j, show b + 1 + j = b + (j + 1) by omega]
theorem aw_fs_at {g : Geo} {h : HS} {i j f : Nat} {fs : List Nat} (hj : fs[j]? = some f) : (aw_fs g h i 0 fs)[j]? = some (aw_fv g h i j f) := by
  rw [aw_fs_get, hj, Nat.zero_add]
  rfl
theorem aw_fv_congr {g : Geo} {h h' : HS} {i j f : Nat} (h1 : h'.1 i = h.1 i) (h2 : h'.2 i = h.2 i) : aw_fv g h' i j f = aw_fv g h i j f := by
  unfold aw_fv
  split <;> simp [h1, h2]
theorem aw_fs_congr {g : Geo} {h h' : HS} {i : Nat} (h1 : h'.1 i = h.1 i) (h2 : h'.2 i = h.2 i) : ∀ (fs : List Nat) (b : Nat), aw_fs g h' i b fs = aw_fs g h i b fs
  | [], b => rfl
  | f :: r, b => by simp only [aw_fs, aw_fv_congr h1 h2, aw_fs_congr h1 h2 r (b + 1)]
theorem aw_ce_congr {g : Geo} {h h' : HS} {i : Nat} {sp : SP} (h1 : h'.1 i = h.1 i) (h2 : h'.2 i = h.2 i) : aw_ce g h' i sp = aw_ce g h i sp := by
  obtain ⟨k, n, fs⟩ := sp
  match k with
  | 0 => simp [aw_ce, h1]
  | 1 => simp [aw_ce, h1]
  | 2 => rfl
  | c + 3 => simp only [aw_ce, aw_fs_congr h1 h2]
def setR (h : HS) (i : Nat) (f : Nat → Int32) : HS := (fun a => if a = i then f else h.1 a, h.2)
def setI (h : HS) (i j : Nat) (v : Int32) : HS := setR h i (upd (h.1 i) j v)
def setL (h : HS) (i j : Nat) (v : Int64) : HS := (h.1, fun a => if a = i then vp_updL (h.2 i) j v else h.2 a)
theorem aw_cz_set {g : Geo} {h h' : HS} {lay : List SP} {i : Nat} {sp : SP} (hi : lay[i]? = some sp) (ho : ∀ a, a ≠ i → h'.1 a = h.1 a ∧ h'.2 a = h.2 a) : aw_cz g h' 0 lay = (aw_cz g h 0 lay).set i (g.2.1 i, aw_ce g h' i sp) := by
  apply List.ext_getElem?
  intro j
  by_cases hj : j = i
  · subst hj
    rw [aw_cz_at hi, List.getElem?_set_self]
    have := aw_cz_at (g := g) (h := h) hi
    exact (List.getElem?_eq_some_iff.mp this).1
  · rw [List.getElem?_set_ne (Ne.symm hj), aw_cz_get, aw_cz_get]
    cases lay[j]? with
    | none => rfl
    | some q =>
      simp only [Option.map_some, Nat.zero_add]
      rw [aw_ce_congr (ho j hj).1 (ho j hj).2]
theorem aw_fs_setI {g : Geo} {h : HS} {i j : Nat} {v : Int32} {fs : List Nat} (hj : fs[j]? = some 0) : aw_fs g (setI h i j v) i 0 fs = (aw_fs g h i 0 fs).set j (.int v) := by
  apply List.ext_getElem?
  intro k
  by_cases hk : k = j
  · subst hk
    rw [aw_fs_at hj, List.getElem?_set_self (by have := aw_fs_at (g := g) (h := h) (i := i) hj; exact (List.getElem?_eq_some_iff.mp this).1)]
    simp [aw_fv, setI, setR, upd]
  · rw [List.getElem?_set_ne (Ne.symm hk), aw_fs_get, aw_fs_get]
    cases fs[k]? with
    | none => rfl
    | some f =>
      simp only [Option.map_some, Nat.zero_add]
      congr 1
      unfold aw_fv
      split
      · simp [setI, setR, upd, hk]
      · simp [setI, setR]
      · rfl
theorem aw_fs_setL {g : Geo} {h : HS} {i j : Nat} {v : Int64} {fs : List Nat} (hj : fs[j]? = some 1) : aw_fs g (setL h i j v) i 0 fs = (aw_fs g h i 0 fs).set j (.long v) := by
  apply List.ext_getElem?
  intro k
  by_cases hk : k = j
  · subst hk
    rw [aw_fs_at hj, List.getElem?_set_self (by have := aw_fs_at (g := g) (h := h) (i := i) hj; exact (List.getElem?_eq_some_iff.mp this).1)]
    simp [aw_fv, setL, vp_updL]
  · rw [List.getElem?_set_ne (Ne.symm hk), aw_fs_get, aw_fs_get]
    cases fs[k]? with
    | none => rfl
    | some f =>
      simp only [Option.map_some, Nat.zero_add]
      congr 1
      unfold aw_fv
      split
      · simp [setL]
      · simp [setL, vp_updL, hk]
      · rfl
theorem setR_o {h : HS} {i : Nat} {f : Nat → Int32} (a : Nat) (ha : a ≠ i) : (setR h i f).1 a = h.1 a ∧ (setR h i f).2 a = h.2 a := by simp [setR, ha]
theorem setI_o {h : HS} {i j : Nat} {v : Int32} (a : Nat) (ha : a ≠ i) : (setI h i j v).1 a = h.1 a ∧ (setI h i j v).2 a = h.2 a := setR_o a ha
theorem setL_o {h : HS} {i j : Nat} {v : Int64} (a : Nat) (ha : a ≠ i) : (setL h i j v).1 a = h.1 a ∧ (setL h i j v).2 a = h.2 a := by simp [setL, ha]
/-! the locals: none is a place of which nothing is known -/
def aw_lh (la : Array Slot) (nL : Nat) (L : List (Option Value)) : Prop := la.size = nL ∧ lv_wf la ∧ ∀ (i : Nat) (v : Value), L[i]? = some (some v) → la[i]? = some (.val v)
def aw_ac : Nat → List (Option Value) → List (Nat × Value)
  | _, [] => []
  | b, none :: r => aw_ac (b + 1) r
  | b, some v :: r => (b, v) :: aw_ac (b + 1) r
theorem aw_ac_mem : ∀ (L : List (Option Value)) (b : Nat) (q : Nat × Value), q ∈ aw_ac b L ↔ ∃ k, q.1 = b + k ∧ L[k]? = some (some q.2)
  | [], b, q => by simp [aw_ac]
  | none :: r, b, q => by
    simp only [aw_ac, aw_ac_mem r (b + 1) q]
    constructor
    · rintro ⟨k, h1, h2⟩
      exact ⟨k + 1, by omega, by simpa using h2⟩
    · rintro ⟨k, h1, h2⟩
      cases k with
      | zero => simp at h2
      | succ k => exact ⟨k, by omega, by simpa using h2⟩
  | some v :: r, b, q => by
    simp only [aw_ac, List.mem_cons, aw_ac_mem r (b + 1) q]
    constructor
    · rintro (h | ⟨k, h1, h2⟩)
      · exact ⟨0, by rw [h]; rfl, by rw [h]; rfl⟩
      · exact ⟨k + 1, by omega, by simpa using h2⟩
    · rintro ⟨k, h1, h2⟩
      cases k with
      | zero =>
        left
        obtain ⟨q1, q2⟩ := q
        simp at h1 h2
        simp [h1, h2]
      | succ k => exact Or.inr ⟨k, by omega, by simpa using h2⟩
theorem aw_lh_has {la : Array Slot} {nL : Nat} {L : List (Option Value)} (h : aw_lh la nL L) : lv_has la nL (aw_ac 0 L) := by
  refine ⟨h.1, h.2.1, fun q hq => ?_⟩
  obtain ⟨k, h1, h2⟩ := (aw_ac_mem L 0 q).mp hq
  rw [h1, Nat.zero_add]
  exact h.2.2 k q.2 h2
def aw_c1 (o : Option Value) : Bool := match o with
  | none => true
  | some v => v.category == 1
theorem aw_set1 {la : Array Slot} {nL i : Nat} {v : Value} {L : List (Option Value)} {lv : List (Nat × Value)} (h : lv_has la nL ((i, v) :: lv.filter (fun q => !(q.1 == i) && !(q.1 + 1 == i && q.2.category == 2)))) (hlv : ∀ (j : Nat) (w : Value), L[j]? = some (some w) → (j, w) ∈ lv)
    (hp : ∀ (j : Nat) (o : Option Value), j + 1 = i → L[j]? = some o → aw_c1 o = true) : aw_lh la nL (L.set i (some v)) := by
  refine ⟨h.1, h.2.1, fun j w hj => ?_⟩
  by_cases hji : j = i
  · subst hji
    have hlt : j < L.length := by
      have := (List.getElem?_eq_some_iff.mp hj).1
      simpa using this
    rw [List.getElem?_set_self hlt] at hj
    cases hj
    exact h.2.2 (j, v) List.mem_cons_self
  · rw [List.getElem?_set_ne (Ne.symm hji)] at hj
    refine h.2.2 (j, w) (List.mem_cons_of_mem _ (List.mem_filter.mpr ⟨hlv j w hj, ?_⟩))
    have h1 : (j == i) = false := by simpa using hji
    by_cases hq : j + 1 = i
    · have hc := hp j _ hq hj
      have hc2 : (w.category == 2) = false := by
        simp only [aw_c1, beq_iff_eq] at hc
        simp [hc]
      simp [h1, hc2]
    · have h2 : (j + 1 == i) = false := by simpa using hq
      simp [h1, h2]
theorem aw_set2 {la : Array Slot} {nL i : Nat} {v : Value} {L : List (Option Value)} {lv : List (Nat × Value)} (h : lv_has la nL ((i, v) :: lv.filter (fun q => !(q.1 == i) && (!(q.1 == i + 1) && !(q.1 + 1 == i && q.2.category == 2))))) (hlv : ∀ (j : Nat) (w : Value), L[j]? = some (some w) → (j, w) ∈ lv)
    (hp : ∀ (j : Nat) (o : Option Value), j + 1 = i → L[j]? = some o → aw_c1 o = true) : aw_lh la nL ((L.set i (some v)).set (i + 1) none) := by
  refine ⟨h.1, h.2.1, fun j w hj => ?_⟩
  by_cases hj1 : j = i + 1
  · subst hj1
    have hlt : i + 1 < (L.set i (some v)).length := by
      have := (List.getElem?_eq_some_iff.mp hj).1
      simpa using this
    rw [List.getElem?_set_self hlt] at hj
    cases hj
  rw [List.getElem?_set_ne (Ne.symm hj1)] at hj
  by_cases hji : j = i
  · subst hji
    have hlt : j < L.length := by
      have := (List.getElem?_eq_some_iff.mp hj).1
      simpa using this
    rw [List.getElem?_set_self hlt] at hj
    cases hj
    exact h.2.2 (j, v) List.mem_cons_self
  · rw [List.getElem?_set_ne (Ne.symm hji)] at hj
    refine h.2.2 (j, w) (List.mem_cons_of_mem _ (List.mem_filter.mpr ⟨hlv j w hj, ?_⟩))
    have h1 : (j == i) = false := by simpa using hji
    have h3 : (j == i + 1) = false := by simpa using hj1
    by_cases hq : j + 1 = i
    · have hc := hp j _ hq hj
      have hc2 : (w.category == 2) = false := by
        simp only [aw_c1, beq_iff_eq] at hc
        simp [hc]
      simp [h1, h3, hc2]
    · have h2 : (j + 1 == i) = false := by simpa using hq
      simp [h1, h3, h2]
theorem aw_ac_of {L : List (Option Value)} {j : Nat} {w : Value} (h : L[j]? = some (some w)) : (j, w) ∈ aw_ac 0 L := (aw_ac_mem L 0 (j, w)).mpr ⟨j, by simp, h⟩
/-- a method's locals at its start -/
def aw_en : List Value → List (Option Value)
  | [] => []
  | v :: r => if v.category = 2 then some v :: none :: aw_en r else some v :: aw_en r
theorem aw_en_mem : ∀ (vs : List Value) (b j : Nat) (w : Value), (aw_en vs)[j]? = some (some w) → (b + j, w) ∈ lv_args b vs
  | [], b, j, w, h => by simp [aw_en] at h
  | v :: r, b, j, w, h => by
    by_cases hc : v.category = 2
    · simp only [aw_en, hc, if_true] at h
      simp only [lv_args, hc, if_true]
      match j, h with
      | 0, h => simp at h; simp [h]
      | 1, h => simp at h
      | j + 2, h =>
        have := aw_en_mem r (b + 2) j w (by simpa using h)
        rw [show b + (j + 2) = b + 2 + j by omega]
        exact List.mem_cons_of_mem _ this
    · simp only [aw_en, hc, if_false] at h
      simp only [lv_args, hc, if_false]
      match j, h with
      | 0, h => simp at h; simp [h]
      | j + 1, h =>
        have := aw_en_mem r (b + 1) j w (by simpa using h)
        rw [show b + (j + 1) = b + 1 + j by omega]
        exact List.mem_cons_of_mem _ this
/-! the tables' words: one list for all methods -/
def aw_ws (mi : MI) : List Cond := .code mi.1 mi.2.1 mi.2.2.1 mi.2.2.2 :: aw_tb
def aw_rm (d : Nat) : Room := { frames := d, cells := 0, slots := 0, locals := 36 * d }
theorem aw_good {w : Cond} (h : w ∈ aw_tb) : (w.onTables && w.keeps) = true ∨ ∃ ty, w = .arrayClass ty := good_of_word (List.mem_filter.mp h).2
theorem aw_goodIn {mi mi' : MI} (h : Cond.code mi'.1 mi'.2.1 mi'.2.2.1 mi'.2.2.2 ∈ aw_tb) : GoodIn (aw_ws mi) (aw_ws mi') := by
  intro w hw
  rcases List.mem_cons.mp hw with rfl | hw
  · exact ⟨List.mem_cons_of_mem _ h, aw_good h⟩
  · exact ⟨List.mem_cons_of_mem _ hw, aw_good hw⟩
/-! words of nest mates, and the static rows -/
def aw_nw (w : Cond) : Bool := match w with
  | .fieldLinkNest .. => true
  | .methodLinkNest .. => true
  | _ => false
def aw_N (U : State) : Prop := ∀ w ∈ lw_tbl, aw_nw w = true → va_Nw w U
theorem aw_N.warm {s U : State} (hW : s.WarmedH U.vm) (h : aw_N s) : aw_N U := by
  intro w hw hn
  have := h w hw hn
  cases w <;> first | exact va_Nw.warmF hW this | exact va_Nw.warmM hW this | cases hn
theorem aw_N.same {s U : State} (hv : s.vm = U.vm) (h : aw_N s) : aw_N U := by
  intro w hw hn
  have := h w hw hn
  refine va_Nw.same ?_ hv this
  cases w <;> first | rfl | cases hn
theorem aw_N.of {args : Array Value} {s : State} (hts : ∀ w ∈ lw_tbl, w.before args s = true) : aw_N s := by
  intro w hw hn
  refine va_Nw.of ?_ (hts w hw)
  cases w <;> first | rfl | cases hn
def aw_r0 (j : Nat) : Int32 := ([100, 80, 50, 0, 10, 20, 100, 10, 100, 8] : List Int32).getD j 0
def aw_r1 (j : Nat) : Int32 := ([0, 0, 0, 0, 0, 0, 1, 0, 0, 1] : List Int32).getD j 0
def aw_r2 (j : Nat) : Int32 := ([100, 100, 100, 100, 100, 100, 999, 100, 999, 10] : List Int32).getD j 0
def aw_Z1 (n : String) (f : Nat → Int32) (t : Nat) (A : Nat → Prop) (U : State) (H : Heap) : Prop := va_Z "ManyNames" n "[I" (.ref t) A U H ∧ va_X t 10 f U H ∧ t < H.size ∧ ¬ A t
theorem aw_Z1.go {n : String} {f : Nat → Int32} {t : Nat} {A B : Nat → Prop} {s U : State} {H : Heap} (h : aw_Z1 n f t A s s.heap) (hvm : s.vm.Alike U.vm) (hH : s.heap.size ≤ H.size) (hq : ∀ a : Nat, a < s.heap.size → ¬ A a → H[a]? = s.heap[a]?) (hAB : ∀ q, B q → A q) : aw_Z1 n f t B U H :=
  ⟨((h.1.moved hvm).kept hq).narrow hAB, (h.2.1.moved hvm).kept (hq t h.2.2.1 h.2.2.2), Nat.lt_of_lt_of_le h.2.2.1 hH, fun z => h.2.2.2 (hAB _ z)⟩
def aw_Z (sta : Nat → Nat) (A : Nat → Prop) (U : State) (H : Heap) : Prop := aw_Z1 "RULES_AT_FIRST" aw_r0 (sta 0) A U H ∧ aw_Z1 "RULES_LEAST" aw_r1 (sta 1) A U H ∧ aw_Z1 "RULES_MOST" aw_r2 (sta 2) A U H
theorem aw_Z.go {sta : Nat → Nat} {A B : Nat → Prop} {s U : State} {H : Heap} (h : aw_Z sta A s s.heap) (hvm : s.vm.Alike U.vm) (hH : s.heap.size ≤ H.size) (hq : ∀ a : Nat, a < s.heap.size → ¬ A a → H[a]? = s.heap[a]?) (hAB : ∀ q, B q → A q) : aw_Z sta B U H :=
  ⟨h.1.go hvm hH hq hAB, h.2.1.go hvm hH hq hAB, h.2.2.go hvm hH hq hAB⟩
/-! a world, a contract, a walk -/
abbrev KT : Type := Program × Env × State × MethodId × Array Value × List Frame × Method × Code × (Nat → Prop)
def aw_tys (g : Geo) : List (ClassId × FieldType) := [(g.2.2.1, .int), (g.2.2.2.1, .boolean), (g.2.2.2.2, .object "ManyNames$Sheet")]
abbrev aw_w (w : WT) (h : HS) : va_W := aw_cz w.2.1 h 0 w.2.2.1
def aw_Q (w : WT) (A : Nat → Prop) (P : Option Value → HS → Prop) : Array Value → State → Outcome → State → Prop := fun _ st oc t => (∃ (o : Option Value) (h' : HS), oc = .returned o ∧ P o h' ∧ va_P w.2.1.1 vwCl (aw_w w h') t.heap) ∧ va_F A st t
def aw_B (w : WT) (h : HS) (sz : Nat) : State → Prop := fun U => U.heap.size = sz ∧ va_P w.2.1.1 vwCl (aw_w w h) U.heap ∧ va_K w.2.1.1 vwCl (aw_tys w.2.1) U ∧ va_D (fun _ => True) (aw_w w h) ∧ aw_N U ∧ aw_Z w.2.2.2 (va_A (aw_w w h) sz) U U.heap
/-- the contract of a method: called with these values over h it returns, with P -/
def CT (w : WT) (d : Nat) (mi : MI) (av : List Value) (h : HS) (P : Option Value → HS → Prop) : Prop :=
  ∀ sz : Nat, Met w.1 mi.1 (aw_ws mi) (aw_rm d) (va_Pc av (aw_B w h sz)) (aw_Q w (va_A (aw_w w h) sz) P) 0 0 (va_A (aw_w w h) sz)
def AW (w : WT) (P : Option Value → HS → Prop) (d : Nat) (mi : MI) (k : KT) (pc : Nat) (L : List (Option Value)) (st : List Value) (h : HS) : Prop := match k with
  | (p, e, s, m, args, below, meth, c, A) => ∀ (H : Heap) (locs : List Loc) (la : Array Slot), aw_lh la mi.2.2.1 L → va_P w.2.1.1 vwCl (aw_w w h) H → va_D A (aw_w w h) → va_S A s.heap H locs →
    W p w.1 e (aw_rm d) s m args below meth c H locs 0 0 (MQ below (aw_Q w A P) args s 0 0 A) (F0 m pc la st)
def AOK (w : WT) (mi : MI) (k : KT) : Prop := match k with
  | (p, e, s, m, args, below, meth, c, A) => p.tables.exec = Jvm.exec ∧ c.code = mi.2.1 ∧ c.maxLocals = mi.2.2.1 ∧ s.vm.findClass mi.1.cls = some m.cls ∧ (∀ w ∈ aw_ws mi, w.before args s = true) ∧ meth.sig.returnType = mi.2.2.2 ∧ meth.locks = false ∧ va_K w.2.1.1 vwCl (aw_tys w.2.1) s ∧ (∀ q, s.heap.size ≤ q → A q) ∧ aw_N s ∧ aw_Z w.2.2.2 A s s.heap
theorem aw_A_eq {g : Geo} {h h' : HS} {lay : List SP} {sz : Nat} {q : Nat} (hq : va_A (aw_cz g h 0 lay) sz q) : va_A (aw_cz g h' 0 lay) sz q := by
  rcases hq with ⟨k, e, hk⟩ | hq
  · left
    rw [aw_cz_get] at hk
    cases hl : lay[k]? with
    | none => rw [hl] at hk; cases hk
    | some sp =>
      rw [hl] at hk
      have h2 := Option.some.inj hk
      refine ⟨k, aw_ce g h' k sp, ?_⟩
      rw [aw_cz_at hl]
      have : g.2.1 (0 + k) = q := congrArg Prod.fst h2
      rw [Nat.zero_add] at this
      rw [this]
  · exact Or.inr hq
theorem aw_D_eq {g : Geo} {h h' : HS} {lay : List SP} {A : Nat → Prop} (hD : va_D A (aw_cz g h 0 lay)) : va_D A (aw_cz g h' 0 lay) := by
  have key : ∀ (k : Nat) (q : Nat × va_E), (aw_cz g h' 0 lay)[k]? = some q → ∃ e, (aw_cz g h 0 lay)[k]? = some (q.1, e) := by
    intro k q hk
    rw [aw_cz_get] at hk
    cases hl : lay[k]? with
    | none => rw [hl] at hk; cases hk
    | some sp =>
      rw [hl] at hk
      have h2 := Option.some.inj hk
      refine ⟨aw_ce g h k sp, ?_⟩
      rw [aw_cz_at hl, ← h2, Nat.zero_add]
  refine ⟨fun i j p q hi hj hpq => ?_, fun k q hk => ?_⟩
  · obtain ⟨e1, h1⟩ := key i p hi
    obtain ⟨e2, h2⟩ := key j q hj
    exact hD.1 i j _ _ h1 h2 hpq
  · obtain ⟨e1, h1⟩ := key k q hk
    exact hD.2 k (q.1, e1) h1
/-- a contract out of a walk -/
theorem CT.of {w : WT} {d : Nat} {mi : MI} {av : List Value} {h : HS} {P : Option Value → HS → Prop} (hy : plainName mi.1.cls = true) (hn : (lg_sl av).length ≤ mi.2.2.1)
    (body : ∀ k : KT, AOK w mi k → AW w P d mi k 0 (aw_en av) [] h) : CT w d mi av h P := by
  intro sz
  refine Met.ofW (cc := mi.2.1) (maxL := mi.2.2.1) (ret := mi.2.2.2) hy rfl ?_
  intro p e s m args below meth c s₁ B hml hv
  obtain ⟨rfl, hsz, hP, hK, hD0, hN, hZ⟩ := hv
  have hts := atoms_spec (ws := aw_ws mi) B.pre
  have hown : s.vm.findClass mi.1.cls = some m.cls := findClass_of_methodNamed B.named
  subst hsz
  have hD := hD0.self (sz := s.heap.size)
  have hb := body (p, e, s, m, av.toArray, below, meth, c, va_A (aw_w w h) s.heap.size) ⟨B.exec, B.bytes, hml, hown, hts, B.returns, B.notSynchronized, hK, fun q hq => Or.inr hq, hN, hZ⟩
  have hl := lv_entry av (n := mi.2.2.1) hn
  rw [lg_entry_eq]
  refine hb _ _ _ ⟨hl.1, hl.2.1, fun i v hi => ?_⟩ hP hD va_S.rf
  have := aw_en_mem av 0 i v hi
  rw [Nat.zero_add] at this
  exact hl.2.2 (i, v) this
theorem CT.imp {w : WT} {d : Nat} {mi : MI} {av : List Value} {h : HS} {P P' : Option Value → HS → Prop} (hc : CT w d mi av h P) (hp : ∀ o h', P o h' → P' o h') : CT w d mi av h P' := by
  intro sz p e ha hcc hk s m args below hf happ hpre ht
  obtain ⟨t, o, h1, h2, h3, ⟨⟨o2, h', e1, e2, e3⟩, h5⟩, h6⟩ := hc sz p e ha hcc hk s m args below hf happ hpre ht
  exact ⟨t, o, h1, h2, h3, ⟨⟨o2, h', e1, hp _ _ e2, e3⟩, h5⟩, h6⟩

section AWR
variable {w : WT} {P : Option Value → HS → Prop} {d : Nat} {mi : MI} {k : KT} {pc : Nat} {L : List (Option Value)} {st : List Value} {h : HS}
theorem aw_iconst (K : AOK w mi k) {n0 : Int} {v : Int32} (hd : decode mi.2.1 pc = .ok (.iconst n0, 1)) (hv : Int32.ofInt n0 = v) (n : AW w P d mi k (pc + 1) L (.int v :: st) h) : AW w P d mi k pc L (st) h := by
  obtain ⟨p, e, s, m, args, below, meth, c, A⟩ := k
  exact fun H lo la a1 a2 a3 a4 => lv_iconst K.1 K.2.1 hd hv (n H lo la a1 a2 a3 a4)
theorem aw_bipush (K : AOK w mi k) {n0 : Int} {v : Int32} (hd : decode mi.2.1 pc = .ok (.bipush n0, 2)) (hv : (Int8.ofInt n0).toInt32 = v) (n : AW w P d mi k (pc + 2) L (.int v :: st) h) : AW w P d mi k pc L (st) h := by
  obtain ⟨p, e, s, m, args, below, meth, c, A⟩ := k
  exact fun H lo la a1 a2 a3 a4 => lv_bipush K.1 K.2.1 hd hv (n H lo la a1 a2 a3 a4)
theorem aw_sipush (K : AOK w mi k) {n0 : Int} {v : Int32} (hd : decode mi.2.1 pc = .ok (.sipush n0, 3)) (hv : (Int16.ofInt n0).toInt32 = v) (n : AW w P d mi k (pc + 3) L (.int v :: st) h) : AW w P d mi k pc L (st) h := by
  obtain ⟨p, e, s, m, args, below, meth, c, A⟩ := k
  exact fun H lo la a1 a2 a3 a4 => lv_sipush K.1 K.2.1 hd hv (n H lo la a1 a2 a3 a4)
theorem aw_lconst (K : AOK w mi k) {n0 : Fin 2} {v : Int64} (hd : decode mi.2.1 pc = .ok (.lconst n0, 1)) (hv : Int64.ofNat (n0 : Nat) = v) (n : AW w P d mi k (pc + 1) L (.long v :: st) h) : AW w P d mi k pc L (st) h := by
  obtain ⟨p, e, s, m, args, below, meth, c, A⟩ := k
  exact fun H lo la a1 a2 a3 a4 => lv_lconst K.1 K.2.1 hd hv (n H lo la a1 a2 a3 a4)
theorem aw_iadd (K : AOK w mi k) {x y : Int32} (hd : decode mi.2.1 pc = .ok (.iadd, 1)) (n : AW w P d mi k (pc + 1) L (.int (x + y) :: st) h) : AW w P d mi k pc L (.int y :: .int x :: st) h := by
  obtain ⟨p, e, s, m, args, below, meth, c, A⟩ := k
  exact fun H lo la a1 a2 a3 a4 => lv_iadd K.1 K.2.1 hd (n H lo la a1 a2 a3 a4)
theorem aw_isub (K : AOK w mi k) {x y : Int32} (hd : decode mi.2.1 pc = .ok (.isub, 1)) (n : AW w P d mi k (pc + 1) L (.int (x - y) :: st) h) : AW w P d mi k pc L (.int y :: .int x :: st) h := by
  obtain ⟨p, e, s, m, args, below, meth, c, A⟩ := k
  exact fun H lo la a1 a2 a3 a4 => lv_isub K.1 K.2.1 hd (n H lo la a1 a2 a3 a4)
theorem aw_imul (K : AOK w mi k) {x y : Int32} (hd : decode mi.2.1 pc = .ok (.imul, 1)) (n : AW w P d mi k (pc + 1) L (.int (x * y) :: st) h) : AW w P d mi k pc L (.int y :: .int x :: st) h := by
  obtain ⟨p, e, s, m, args, below, meth, c, A⟩ := k
  exact fun H lo la a1 a2 a3 a4 => lv_imul K.1 K.2.1 hd (n H lo la a1 a2 a3 a4)
theorem aw_iand (K : AOK w mi k) {x y : Int32} (hd : decode mi.2.1 pc = .ok (.iand, 1)) (n : AW w P d mi k (pc + 1) L (.int (x &&& y) :: st) h) : AW w P d mi k pc L (.int y :: .int x :: st) h := by
  obtain ⟨p, e, s, m, args, below, meth, c, A⟩ := k
  exact fun H lo la a1 a2 a3 a4 => lv_iand K.1 K.2.1 hd (n H lo la a1 a2 a3 a4)
theorem aw_ior (K : AOK w mi k) {x y : Int32} (hd : decode mi.2.1 pc = .ok (.ior, 1)) (n : AW w P d mi k (pc + 1) L (.int (x ||| y) :: st) h) : AW w P d mi k pc L (.int y :: .int x :: st) h := by
  obtain ⟨p, e, s, m, args, below, meth, c, A⟩ := k
  exact fun H lo la a1 a2 a3 a4 => lv_ior K.1 K.2.1 hd (n H lo la a1 a2 a3 a4)
theorem aw_ixor (K : AOK w mi k) {x y : Int32} (hd : decode mi.2.1 pc = .ok (.ixor, 1)) (n : AW w P d mi k (pc + 1) L (.int (x ^^^ y) :: st) h) : AW w P d mi k pc L (.int y :: .int x :: st) h := by
  obtain ⟨p, e, s, m, args, below, meth, c, A⟩ := k
  exact fun H lo la a1 a2 a3 a4 => lv_ixor K.1 K.2.1 hd (n H lo la a1 a2 a3 a4)
theorem aw_ishl (K : AOK w mi k) {x y : Int32} (hd : decode mi.2.1 pc = .ok (.ishl, 1)) (n : AW w P d mi k (pc + 1) L (.int (x <<< (y &&& 31)) :: st) h) : AW w P d mi k pc L (.int y :: .int x :: st) h := by
  obtain ⟨p, e, s, m, args, below, meth, c, A⟩ := k
  exact fun H lo la a1 a2 a3 a4 => lv_ishl K.1 K.2.1 hd (n H lo la a1 a2 a3 a4)
theorem aw_ishr (K : AOK w mi k) {x y : Int32} (hd : decode mi.2.1 pc = .ok (.ishr, 1)) (n : AW w P d mi k (pc + 1) L (.int (x >>> (y &&& 31)) :: st) h) : AW w P d mi k pc L (.int y :: .int x :: st) h := by
  obtain ⟨p, e, s, m, args, below, meth, c, A⟩ := k
  exact fun H lo la a1 a2 a3 a4 => lv_ishr K.1 K.2.1 hd (n H lo la a1 a2 a3 a4)
theorem aw_iushr (K : AOK w mi k) {x y : Int32} (hd : decode mi.2.1 pc = .ok (.iushr, 1)) (n : AW w P d mi k (pc + 1) L (.int ((x.toUInt32 >>> (y.toUInt32 &&& Int32.toUInt32 31)).toInt32) :: st) h) : AW w P d mi k pc L (.int y :: .int x :: st) h := by
  obtain ⟨p, e, s, m, args, below, meth, c, A⟩ := k
  exact fun H lo la a1 a2 a3 a4 => lv_iushr K.1 K.2.1 hd rfl (n H lo la a1 a2 a3 a4)
theorem aw_idiv (K : AOK w mi k) {x y : Int32} (hd : decode mi.2.1 pc = .ok (.idiv, 1)) (hne : ¬ y = 0) (n : AW w P d mi k (pc + 1) L (.int (x / y) :: st) h) : AW w P d mi k pc L (.int y :: .int x :: st) h := by
  obtain ⟨p, e, s, m, args, below, meth, c, A⟩ := k
  exact fun H lo la a1 a2 a3 a4 => lv_idiv K.1 K.2.1 hd hne (n H lo la a1 a2 a3 a4)
theorem aw_irem (K : AOK w mi k) {x y : Int32} (hd : decode mi.2.1 pc = .ok (.irem, 1)) (hne : ¬ y = 0) (n : AW w P d mi k (pc + 1) L (.int (x - x / y * y) :: st) h) : AW w P d mi k pc L (.int y :: .int x :: st) h := by
  obtain ⟨p, e, s, m, args, below, meth, c, A⟩ := k
  exact fun H lo la a1 a2 a3 a4 => lv_irem K.1 K.2.1 hd hne (n H lo la a1 a2 a3 a4)
theorem aw_ineg (K : AOK w mi k) {x : Int32} (hd : decode mi.2.1 pc = .ok (.ineg, 1)) (n : AW w P d mi k (pc + 1) L (.int (-x) :: st) h) : AW w P d mi k pc L (.int x :: st) h := by
  obtain ⟨p, e, s, m, args, below, meth, c, A⟩ := k
  exact fun H lo la a1 a2 a3 a4 => lv_ineg K.1 K.2.1 hd (n H lo la a1 a2 a3 a4)
theorem aw_ladd (K : AOK w mi k) {x y : Int64} (hd : decode mi.2.1 pc = .ok (.ladd, 1)) (n : AW w P d mi k (pc + 1) L (.long (x + y) :: st) h) : AW w P d mi k pc L (.long y :: .long x :: st) h := by
  obtain ⟨p, e, s, m, args, below, meth, c, A⟩ := k
  exact fun H lo la a1 a2 a3 a4 => lv_ladd K.1 K.2.1 hd (n H lo la a1 a2 a3 a4)
theorem aw_lsub (K : AOK w mi k) {x y : Int64} (hd : decode mi.2.1 pc = .ok (.lsub, 1)) (n : AW w P d mi k (pc + 1) L (.long (x - y) :: st) h) : AW w P d mi k pc L (.long y :: .long x :: st) h := by
  obtain ⟨p, e, s, m, args, below, meth, c, A⟩ := k
  exact fun H lo la a1 a2 a3 a4 => lv_lsub K.1 K.2.1 hd (n H lo la a1 a2 a3 a4)
theorem aw_lmul (K : AOK w mi k) {x y : Int64} (hd : decode mi.2.1 pc = .ok (.lmul, 1)) (n : AW w P d mi k (pc + 1) L (.long (x * y) :: st) h) : AW w P d mi k pc L (.long y :: .long x :: st) h := by
  obtain ⟨p, e, s, m, args, below, meth, c, A⟩ := k
  exact fun H lo la a1 a2 a3 a4 => lv_lmul K.1 K.2.1 hd (n H lo la a1 a2 a3 a4)
theorem aw_land (K : AOK w mi k) {x y : Int64} (hd : decode mi.2.1 pc = .ok (.land, 1)) (n : AW w P d mi k (pc + 1) L (.long (x &&& y) :: st) h) : AW w P d mi k pc L (.long y :: .long x :: st) h := by
  obtain ⟨p, e, s, m, args, below, meth, c, A⟩ := k
  exact fun H lo la a1 a2 a3 a4 => lv_land K.1 K.2.1 hd (n H lo la a1 a2 a3 a4)
theorem aw_lor (K : AOK w mi k) {x y : Int64} (hd : decode mi.2.1 pc = .ok (.lor, 1)) (n : AW w P d mi k (pc + 1) L (.long (x ||| y) :: st) h) : AW w P d mi k pc L (.long y :: .long x :: st) h := by
  obtain ⟨p, e, s, m, args, below, meth, c, A⟩ := k
  exact fun H lo la a1 a2 a3 a4 => lv_lor K.1 K.2.1 hd (n H lo la a1 a2 a3 a4)
theorem aw_ldiv (K : AOK w mi k) {x y : Int64} (hd : decode mi.2.1 pc = .ok (.ldiv, 1)) (hne : ¬ y = 0) (n : AW w P d mi k (pc + 1) L (.long (x / y) :: st) h) : AW w P d mi k pc L (.long y :: .long x :: st) h := by
  obtain ⟨p, e, s, m, args, below, meth, c, A⟩ := k
  exact fun H lo la a1 a2 a3 a4 => lv_ldiv K.1 K.2.1 hd hne (n H lo la a1 a2 a3 a4)
theorem aw_lrem (K : AOK w mi k) {x y : Int64} (hd : decode mi.2.1 pc = .ok (.lrem, 1)) (hne : ¬ y = 0) (n : AW w P d mi k (pc + 1) L (.long (x - x / y * y) :: st) h) : AW w P d mi k pc L (.long y :: .long x :: st) h := by
  obtain ⟨p, e, s, m, args, below, meth, c, A⟩ := k
  exact fun H lo la a1 a2 a3 a4 => lv_lrem K.1 K.2.1 hd hne (n H lo la a1 a2 a3 a4)
theorem aw_lcmp (K : AOK w mi k) {x y : Int64} (hd : decode mi.2.1 pc = .ok (.lcmp, 1)) (n : AW w P d mi k (pc + 1) L (.int (lg_cmp x y) :: st) h) : AW w P d mi k pc L (.long y :: .long x :: st) h := by
  obtain ⟨p, e, s, m, args, below, meth, c, A⟩ := k
  exact fun H lo la a1 a2 a3 a4 => W.lcmp K.1 K.2.1 hd (n H lo la a1 a2 a3 a4)
theorem aw_lshl (K : AOK w mi k) {x : Int64} {y : Int32} (hd : decode mi.2.1 pc = .ok (.lshl, 1)) (n : AW w P d mi k (pc + 1) L (.long (x <<< (y.toInt64 &&& 63)) :: st) h) : AW w P d mi k pc L (.int y :: .long x :: st) h := by
  obtain ⟨p, e, s, m, args, below, meth, c, A⟩ := k
  exact fun H lo la a1 a2 a3 a4 => lv_lshl K.1 K.2.1 hd rfl (n H lo la a1 a2 a3 a4)
theorem aw_lshr (K : AOK w mi k) {x : Int64} {y : Int32} (hd : decode mi.2.1 pc = .ok (.lshr, 1)) (n : AW w P d mi k (pc + 1) L (.long (x >>> (y.toInt64 &&& 63)) :: st) h) : AW w P d mi k pc L (.int y :: .long x :: st) h := by
  obtain ⟨p, e, s, m, args, below, meth, c, A⟩ := k
  exact fun H lo la a1 a2 a3 a4 => lv_lshr K.1 K.2.1 hd rfl (n H lo la a1 a2 a3 a4)
theorem aw_lushr (K : AOK w mi k) {x : Int64} {y : Int32} (hd : decode mi.2.1 pc = .ok (.lushr, 1)) (n : AW w P d mi k (pc + 1) L (.long ((x.toUInt64 >>> (y.toInt64.toUInt64 &&& Int64.toUInt64 63)).toInt64) :: st) h) : AW w P d mi k pc L (.int y :: .long x :: st) h := by
  obtain ⟨p, e, s, m, args, below, meth, c, A⟩ := k
  exact fun H lo la a1 a2 a3 a4 => lv_lushr K.1 K.2.1 hd rfl (n H lo la a1 a2 a3 a4)
theorem aw_i2l (K : AOK w mi k) {x : Int32} (hd : decode mi.2.1 pc = .ok (.i2l, 1)) (n : AW w P d mi k (pc + 1) L (.long x.toInt64 :: st) h) : AW w P d mi k pc L (.int x :: st) h := by
  obtain ⟨p, e, s, m, args, below, meth, c, A⟩ := k
  exact fun H lo la a1 a2 a3 a4 => lv_i2l K.1 K.2.1 hd rfl (n H lo la a1 a2 a3 a4)
theorem aw_l2i (K : AOK w mi k) {x : Int64} (hd : decode mi.2.1 pc = .ok (.l2i, 1)) (n : AW w P d mi k (pc + 1) L (.int x.toInt32 :: st) h) : AW w P d mi k pc L (.long x :: st) h := by
  obtain ⟨p, e, s, m, args, below, meth, c, A⟩ := k
  exact fun H lo la a1 a2 a3 a4 => lv_l2i K.1 K.2.1 hd rfl (n H lo la a1 a2 a3 a4)
theorem aw_i2b (K : AOK w mi k) {x : Int32} (hd : decode mi.2.1 pc = .ok (.i2b, 1)) (n : AW w P d mi k (pc + 1) L (.int x.toInt8.toInt32 :: st) h) : AW w P d mi k pc L (.int x :: st) h := by
  obtain ⟨p, e, s, m, args, below, meth, c, A⟩ := k
  exact fun H lo la a1 a2 a3 a4 => lv_i2b K.1 K.2.1 hd rfl (n H lo la a1 a2 a3 a4)
theorem aw_i2s (K : AOK w mi k) {x : Int32} (hd : decode mi.2.1 pc = .ok (.i2s, 1)) (n : AW w P d mi k (pc + 1) L (.int x.toInt16.toInt32 :: st) h) : AW w P d mi k pc L (.int x :: st) h := by
  obtain ⟨p, e, s, m, args, below, meth, c, A⟩ := k
  exact fun H lo la a1 a2 a3 a4 => lv_i2s K.1 K.2.1 hd rfl (n H lo la a1 a2 a3 a4)
theorem aw_dup (K : AOK w mi k) {va : Value} (hd : decode mi.2.1 pc = .ok (.dup, 1)) (hva : va.category = 1) (n : AW w P d mi k (pc + 1) L (va :: va :: st) h) : AW w P d mi k pc L (va :: st) h := by
  obtain ⟨p, e, s, m, args, below, meth, c, A⟩ := k
  exact fun H lo la a1 a2 a3 a4 => lv_dup K.1 K.2.1 hd hva (n H lo la a1 a2 a3 a4)
theorem aw_pop (K : AOK w mi k) {va : Value} (hd : decode mi.2.1 pc = .ok (.pop, 1)) (hva : va.category = 1) (n : AW w P d mi k (pc + 1) L (st) h) : AW w P d mi k pc L (va :: st) h := by
  obtain ⟨p, e, s, m, args, below, meth, c, A⟩ := k
  exact fun H lo la a1 a2 a3 a4 => lv_pop K.1 K.2.1 hd hva (n H lo la a1 a2 a3 a4)
theorem aw_pop2 (K : AOK w mi k) {va : Value} (hd : decode mi.2.1 pc = .ok (.pop2, 1)) (hva : va.category = 2) (n : AW w P d mi k (pc + 1) L (st) h) : AW w P d mi k pc L (va :: st) h := by
  obtain ⟨p, e, s, m, args, below, meth, c, A⟩ := k
  exact fun H lo la a1 a2 a3 a4 => lv_pop2_2 K.1 K.2.1 hd hva (n H lo la a1 a2 a3 a4)
theorem aw_dup_x1 (K : AOK w mi k) {va vb : Value} (hd : decode mi.2.1 pc = .ok (.dup_x1, 1)) (hva : va.category = 1) (hvb : vb.category = 1) (n : AW w P d mi k (pc + 1) L (va :: vb :: va :: st) h) : AW w P d mi k pc L (va :: vb :: st) h := by
  obtain ⟨p, e, s, m, args, below, meth, c, A⟩ := k
  exact fun H lo la a1 a2 a3 a4 => lv_dup_x1 K.1 K.2.1 hd hva hvb (n H lo la a1 a2 a3 a4)
theorem aw_dup_x2 (K : AOK w mi k) {va vb vd : Value} (hd : decode mi.2.1 pc = .ok (.dup_x2, 1)) (hva : va.category = 1) (hvb : vb.category = 1) (hvd : vd.category = 1) (n : AW w P d mi k (pc + 1) L (va :: vb :: vd :: va :: st) h) : AW w P d mi k pc L (va :: vb :: vd :: st) h := by
  obtain ⟨p, e, s, m, args, below, meth, c, A⟩ := k
  exact fun H lo la a1 a2 a3 a4 => lv_dup_x2 K.1 K.2.1 hd hva hvb hvd (n H lo la a1 a2 a3 a4)
theorem aw_dup2_11 (K : AOK w mi k) {va vb : Value} (hd : decode mi.2.1 pc = .ok (.dup2, 1)) (hva : va.category = 1) (hvb : vb.category = 1) (n : AW w P d mi k (pc + 1) L (va :: vb :: va :: vb :: st) h) : AW w P d mi k pc L (va :: vb :: st) h := by
  obtain ⟨p, e, s, m, args, below, meth, c, A⟩ := k
  exact fun H lo la a1 a2 a3 a4 => lv_dup2_11 K.1 K.2.1 hd hva hvb (n H lo la a1 a2 a3 a4)
theorem aw_dup2_2 (K : AOK w mi k) {va : Value} (hd : decode mi.2.1 pc = .ok (.dup2, 1)) (hva : va.category = 2) (n : AW w P d mi k (pc + 1) L (va :: va :: st) h) : AW w P d mi k pc L (va :: st) h := by
  obtain ⟨p, e, s, m, args, below, meth, c, A⟩ := k
  exact fun H lo la a1 a2 a3 a4 => lv_dup2_2 K.1 K.2.1 hd hva (n H lo la a1 a2 a3 a4)
-- branches
theorem aw_if_eq (K : AOK w mi k) {x : Int32} {off : Int} {tgt : Nat} (hd : decode mi.2.1 pc = .ok (.ifCond .eq off, 3)) (ht : (pc : Int) + off = (tgt : Int)) (kt : x = 0 → AW w P d mi k tgt L st h) (kf : ¬ x = 0 → AW w P d mi k (pc + 3) L st h) : AW w P d mi k pc L (.int x :: st) h := by
  obtain ⟨p, e, s, m, args, below, meth, c, A⟩ := k
  exact fun H lo la a1 a2 a3 a4 => lv_if_eq K.1 K.2.1 hd ht (fun q => kt q H lo la a1 a2 a3 a4) (fun q => kf q H lo la a1 a2 a3 a4)
theorem aw_icmp_eq (K : AOK w mi k) {x y : Int32} {off : Int} {tgt : Nat} (hd : decode mi.2.1 pc = .ok (.if_icmp .eq off, 3)) (ht : (pc : Int) + off = (tgt : Int)) (kt : x = y → AW w P d mi k tgt L st h) (kf : ¬ x = y → AW w P d mi k (pc + 3) L st h) : AW w P d mi k pc L (.int y :: .int x :: st) h := by
  obtain ⟨p, e, s, m, args, below, meth, c, A⟩ := k
  exact fun H lo la a1 a2 a3 a4 => lv_icmp_eq K.1 K.2.1 hd ht (fun q => kt q H lo la a1 a2 a3 a4) (fun q => kf q H lo la a1 a2 a3 a4)
theorem aw_if_ne (K : AOK w mi k) {x : Int32} {off : Int} {tgt : Nat} (hd : decode mi.2.1 pc = .ok (.ifCond .ne off, 3)) (ht : (pc : Int) + off = (tgt : Int)) (kt : ¬ x = 0 → AW w P d mi k tgt L st h) (kf : x = 0 → AW w P d mi k (pc + 3) L st h) : AW w P d mi k pc L (.int x :: st) h := by
  obtain ⟨p, e, s, m, args, below, meth, c, A⟩ := k
  exact fun H lo la a1 a2 a3 a4 => lv_if_ne K.1 K.2.1 hd ht (fun q => kt q H lo la a1 a2 a3 a4) (fun q => kf q H lo la a1 a2 a3 a4)
theorem aw_icmp_ne (K : AOK w mi k) {x y : Int32} {off : Int} {tgt : Nat} (hd : decode mi.2.1 pc = .ok (.if_icmp .ne off, 3)) (ht : (pc : Int) + off = (tgt : Int)) (kt : ¬ x = y → AW w P d mi k tgt L st h) (kf : x = y → AW w P d mi k (pc + 3) L st h) : AW w P d mi k pc L (.int y :: .int x :: st) h := by
  obtain ⟨p, e, s, m, args, below, meth, c, A⟩ := k
  exact fun H lo la a1 a2 a3 a4 => lv_icmp_ne K.1 K.2.1 hd ht (fun q => kt q H lo la a1 a2 a3 a4) (fun q => kf q H lo la a1 a2 a3 a4)
theorem aw_if_lt (K : AOK w mi k) {x : Int32} {off : Int} {tgt : Nat} (hd : decode mi.2.1 pc = .ok (.ifCond .lt off, 3)) (ht : (pc : Int) + off = (tgt : Int)) (kt : x < 0 → AW w P d mi k tgt L st h) (kf : ¬ x < 0 → AW w P d mi k (pc + 3) L st h) : AW w P d mi k pc L (.int x :: st) h := by
  obtain ⟨p, e, s, m, args, below, meth, c, A⟩ := k
  exact fun H lo la a1 a2 a3 a4 => lv_if_lt K.1 K.2.1 hd ht (fun q => kt q H lo la a1 a2 a3 a4) (fun q => kf q H lo la a1 a2 a3 a4)
theorem aw_icmp_lt (K : AOK w mi k) {x y : Int32} {off : Int} {tgt : Nat} (hd : decode mi.2.1 pc = .ok (.if_icmp .lt off, 3)) (ht : (pc : Int) + off = (tgt : Int)) (kt : x < y → AW w P d mi k tgt L st h) (kf : ¬ x < y → AW w P d mi k (pc + 3) L st h) : AW w P d mi k pc L (.int y :: .int x :: st) h := by
  obtain ⟨p, e, s, m, args, below, meth, c, A⟩ := k
  exact fun H lo la a1 a2 a3 a4 => lv_icmp_lt K.1 K.2.1 hd ht (fun q => kt q H lo la a1 a2 a3 a4) (fun q => kf q H lo la a1 a2 a3 a4)
theorem aw_if_ge (K : AOK w mi k) {x : Int32} {off : Int} {tgt : Nat} (hd : decode mi.2.1 pc = .ok (.ifCond .ge off, 3)) (ht : (pc : Int) + off = (tgt : Int)) (kt : 0 ≤ x → AW w P d mi k tgt L st h) (kf : ¬ 0 ≤ x → AW w P d mi k (pc + 3) L st h) : AW w P d mi k pc L (.int x :: st) h := by
  obtain ⟨p, e, s, m, args, below, meth, c, A⟩ := k
  exact fun H lo la a1 a2 a3 a4 => lv_if_ge K.1 K.2.1 hd ht (fun q => kt q H lo la a1 a2 a3 a4) (fun q => kf q H lo la a1 a2 a3 a4)
theorem aw_icmp_ge (K : AOK w mi k) {x y : Int32} {off : Int} {tgt : Nat} (hd : decode mi.2.1 pc = .ok (.if_icmp .ge off, 3)) (ht : (pc : Int) + off = (tgt : Int)) (kt : y ≤ x → AW w P d mi k tgt L st h) (kf : ¬ y ≤ x → AW w P d mi k (pc + 3) L st h) : AW w P d mi k pc L (.int y :: .int x :: st) h := by
  obtain ⟨p, e, s, m, args, below, meth, c, A⟩ := k
  exact fun H lo la a1 a2 a3 a4 => lv_icmp_ge K.1 K.2.1 hd ht (fun q => kt q H lo la a1 a2 a3 a4) (fun q => kf q H lo la a1 a2 a3 a4)
theorem aw_if_gt (K : AOK w mi k) {x : Int32} {off : Int} {tgt : Nat} (hd : decode mi.2.1 pc = .ok (.ifCond .gt off, 3)) (ht : (pc : Int) + off = (tgt : Int)) (kt : 0 < x → AW w P d mi k tgt L st h) (kf : ¬ 0 < x → AW w P d mi k (pc + 3) L st h) : AW w P d mi k pc L (.int x :: st) h := by
  obtain ⟨p, e, s, m, args, below, meth, c, A⟩ := k
  exact fun H lo la a1 a2 a3 a4 => lv_if_gt K.1 K.2.1 hd ht (fun q => kt q H lo la a1 a2 a3 a4) (fun q => kf q H lo la a1 a2 a3 a4)
theorem aw_icmp_gt (K : AOK w mi k) {x y : Int32} {off : Int} {tgt : Nat} (hd : decode mi.2.1 pc = .ok (.if_icmp .gt off, 3)) (ht : (pc : Int) + off = (tgt : Int)) (kt : y < x → AW w P d mi k tgt L st h) (kf : ¬ y < x → AW w P d mi k (pc + 3) L st h) : AW w P d mi k pc L (.int y :: .int x :: st) h := by
  obtain ⟨p, e, s, m, args, below, meth, c, A⟩ := k
  exact fun H lo la a1 a2 a3 a4 => lv_icmp_gt K.1 K.2.1 hd ht (fun q => kt q H lo la a1 a2 a3 a4) (fun q => kf q H lo la a1 a2 a3 a4)
theorem aw_if_le (K : AOK w mi k) {x : Int32} {off : Int} {tgt : Nat} (hd : decode mi.2.1 pc = .ok (.ifCond .le off, 3)) (ht : (pc : Int) + off = (tgt : Int)) (kt : x ≤ 0 → AW w P d mi k tgt L st h) (kf : ¬ x ≤ 0 → AW w P d mi k (pc + 3) L st h) : AW w P d mi k pc L (.int x :: st) h := by
  obtain ⟨p, e, s, m, args, below, meth, c, A⟩ := k
  exact fun H lo la a1 a2 a3 a4 => lv_if_le K.1 K.2.1 hd ht (fun q => kt q H lo la a1 a2 a3 a4) (fun q => kf q H lo la a1 a2 a3 a4)
theorem aw_icmp_le (K : AOK w mi k) {x y : Int32} {off : Int} {tgt : Nat} (hd : decode mi.2.1 pc = .ok (.if_icmp .le off, 3)) (ht : (pc : Int) + off = (tgt : Int)) (kt : x ≤ y → AW w P d mi k tgt L st h) (kf : ¬ x ≤ y → AW w P d mi k (pc + 3) L st h) : AW w P d mi k pc L (.int y :: .int x :: st) h := by
  obtain ⟨p, e, s, m, args, below, meth, c, A⟩ := k
  exact fun H lo la a1 a2 a3 a4 => lv_icmp_le K.1 K.2.1 hd ht (fun q => kt q H lo la a1 a2 a3 a4) (fun q => kf q H lo la a1 a2 a3 a4)
theorem aw_goto (K : AOK w mi k) {off : Int} {tgt : Nat} (hd : decode mi.2.1 pc = .ok (.goto off, 3)) (ht : (pc : Int) + off = (tgt : Int)) (n : AW w P d mi k tgt L st h) : AW w P d mi k pc L st h := by
  obtain ⟨p, e, s, m, args, below, meth, c, A⟩ := k
  exact fun H lo la a1 a2 a3 a4 => lv_goto K.1 K.2.1 hd ht (n H lo la a1 a2 a3 a4)
theorem aw_iload_n (K : AOK w mi k) {q : Fin 4} {i : Nat} {x : Int32} (hd : decode mi.2.1 pc = .ok (.iload_n q, 1)) (hi : (q : Nat) = i) (hl : L[i]? = some (some (.int x))) (n : AW w P d mi k (pc + 1) L (.int x :: st) h) : AW w P d mi k pc L st h := by
  obtain ⟨p, e, s, m, args, below, meth, c, A⟩ := k
  exact fun H lo la a1 a2 a3 a4 => lv_iload_n K.1 K.2.1 hd hi (a1.2.2 i _ hl) (n H lo la a1 a2 a3 a4)
theorem aw_iload (K : AOK w mi k) {i : Nat} {x : Int32} (hd : decode mi.2.1 pc = .ok (.iload i, 2)) (hl : L[i]? = some (some (.int x))) (n : AW w P d mi k (pc + 2) L (.int x :: st) h) : AW w P d mi k pc L st h := by
  obtain ⟨p, e, s, m, args, below, meth, c, A⟩ := k
  exact fun H lo la a1 a2 a3 a4 => lv_iload K.1 K.2.1 hd (a1.2.2 i _ hl) (n H lo la a1 a2 a3 a4)
theorem aw_istore_n (K : AOK w mi k) {q : Fin 4} {i : Nat} {x : Int32} (hd : decode mi.2.1 pc = .ok (.istore_n q, 1)) (hi : (q : Nat) = i) (hb : i < mi.2.2.1) (hp : ∀ (j : Nat) (o : Option Value), j + 1 = i → L[j]? = some o → aw_c1 o = true) (n : AW w P d mi k (pc + 1) (L.set i (some (.int x))) st h) : AW w P d mi k pc L (.int x :: st) h := by
  obtain ⟨p, e, s, m, args, below, meth, c, A⟩ := k
  exact fun H lo la a1 a2 a3 a4 => lv_istore_n K.1 K.2.1 hd hi (aw_lh_has a1) hb rfl (fun la' hl => n H lo la' (aw_set1 hl (fun j w hj => aw_ac_of hj) hp) a2 a3 a4)
theorem aw_istore (K : AOK w mi k) {i : Nat} {x : Int32} (hd : decode mi.2.1 pc = .ok (.istore i, 2)) (hb : i < mi.2.2.1) (hp : ∀ (j : Nat) (o : Option Value), j + 1 = i → L[j]? = some o → aw_c1 o = true) (n : AW w P d mi k (pc + 2) (L.set i (some (.int x))) st h) : AW w P d mi k pc L (.int x :: st) h := by
  obtain ⟨p, e, s, m, args, below, meth, c, A⟩ := k
  exact fun H lo la a1 a2 a3 a4 => lv_istore K.1 K.2.1 hd (aw_lh_has a1) hb rfl (fun la' hl => n H lo la' (aw_set1 hl (fun j w hj => aw_ac_of hj) hp) a2 a3 a4)
theorem aw_lload_n (K : AOK w mi k) {q : Fin 4} {i : Nat} {x : Int64} (hd : decode mi.2.1 pc = .ok (.lload_n q, 1)) (hi : (q : Nat) = i) (hl : L[i]? = some (some (.long x))) (n : AW w P d mi k (pc + 1) L (.long x :: st) h) : AW w P d mi k pc L st h := by
  obtain ⟨p, e, s, m, args, below, meth, c, A⟩ := k
  exact fun H lo la a1 a2 a3 a4 => lv_lload_n K.1 K.2.1 hd hi (a1.2.2 i _ hl) (n H lo la a1 a2 a3 a4)
theorem aw_lload (K : AOK w mi k) {i : Nat} {x : Int64} (hd : decode mi.2.1 pc = .ok (.lload i, 2)) (hl : L[i]? = some (some (.long x))) (n : AW w P d mi k (pc + 2) L (.long x :: st) h) : AW w P d mi k pc L st h := by
  obtain ⟨p, e, s, m, args, below, meth, c, A⟩ := k
  exact fun H lo la a1 a2 a3 a4 => lv_lload K.1 K.2.1 hd (a1.2.2 i _ hl) (n H lo la a1 a2 a3 a4)
theorem aw_lstore_n (K : AOK w mi k) {q : Fin 4} {i : Nat} {x : Int64} (hd : decode mi.2.1 pc = .ok (.lstore_n q, 1)) (hi : (q : Nat) = i) (hb : i + 1 < mi.2.2.1) (hp : ∀ (j : Nat) (o : Option Value), j + 1 = i → L[j]? = some o → aw_c1 o = true) (n : AW w P d mi k (pc + 1) ((L.set i (some (.long x))).set (i + 1) none) st h) : AW w P d mi k pc L (.long x :: st) h := by
  obtain ⟨p, e, s, m, args, below, meth, c, A⟩ := k
  exact fun H lo la a1 a2 a3 a4 => lv_lstore_n K.1 K.2.1 hd hi (aw_lh_has a1) hb rfl (fun la' hl => n H lo la' (aw_set2 hl (fun j w hj => aw_ac_of hj) hp) a2 a3 a4)
theorem aw_lstore (K : AOK w mi k) {i : Nat} {x : Int64} (hd : decode mi.2.1 pc = .ok (.lstore i, 2)) (hb : i + 1 < mi.2.2.1) (hp : ∀ (j : Nat) (o : Option Value), j + 1 = i → L[j]? = some o → aw_c1 o = true) (n : AW w P d mi k (pc + 2) ((L.set i (some (.long x))).set (i + 1) none) st h) : AW w P d mi k pc L (.long x :: st) h := by
  obtain ⟨p, e, s, m, args, below, meth, c, A⟩ := k
  exact fun H lo la a1 a2 a3 a4 => lv_lstore K.1 K.2.1 hd (aw_lh_has a1) hb rfl (fun la' hl => n H lo la' (aw_set2 hl (fun j w hj => aw_ac_of hj) hp) a2 a3 a4)
theorem aw_aload_n (K : AOK w mi k) {q : Fin 4} {i : Nat} {x : Nat} (hd : decode mi.2.1 pc = .ok (.aload_n q, 1)) (hi : (q : Nat) = i) (hl : L[i]? = some (some (.ref x))) (n : AW w P d mi k (pc + 1) L (.ref x :: st) h) : AW w P d mi k pc L st h := by
  obtain ⟨p, e, s, m, args, below, meth, c, A⟩ := k
  exact fun H lo la a1 a2 a3 a4 => lv_aload_n K.1 K.2.1 hd hi (a1.2.2 i _ hl) (n H lo la a1 a2 a3 a4)
theorem aw_aload (K : AOK w mi k) {i : Nat} {x : Nat} (hd : decode mi.2.1 pc = .ok (.aload i, 2)) (hl : L[i]? = some (some (.ref x))) (n : AW w P d mi k (pc + 2) L (.ref x :: st) h) : AW w P d mi k pc L st h := by
  obtain ⟨p, e, s, m, args, below, meth, c, A⟩ := k
  exact fun H lo la a1 a2 a3 a4 => lv_aload K.1 K.2.1 hd (a1.2.2 i _ hl) (n H lo la a1 a2 a3 a4)
theorem aw_astore_n (K : AOK w mi k) {q : Fin 4} {i : Nat} {x : Nat} (hd : decode mi.2.1 pc = .ok (.astore_n q, 1)) (hi : (q : Nat) = i) (hb : i < mi.2.2.1) (hp : ∀ (j : Nat) (o : Option Value), j + 1 = i → L[j]? = some o → aw_c1 o = true) (n : AW w P d mi k (pc + 1) (L.set i (some (.ref x))) st h) : AW w P d mi k pc L (.ref x :: st) h := by
  obtain ⟨p, e, s, m, args, below, meth, c, A⟩ := k
  exact fun H lo la a1 a2 a3 a4 => lv_astore_n K.1 K.2.1 hd hi (aw_lh_has a1) hb rfl (fun la' hl => n H lo la' (aw_set1 hl (fun j w hj => aw_ac_of hj) hp) a2 a3 a4)
theorem aw_astore (K : AOK w mi k) {i : Nat} {x : Nat} (hd : decode mi.2.1 pc = .ok (.astore i, 2)) (hb : i < mi.2.2.1) (hp : ∀ (j : Nat) (o : Option Value), j + 1 = i → L[j]? = some o → aw_c1 o = true) (n : AW w P d mi k (pc + 2) (L.set i (some (.ref x))) st h) : AW w P d mi k pc L (.ref x :: st) h := by
  obtain ⟨p, e, s, m, args, below, meth, c, A⟩ := k
  exact fun H lo la a1 a2 a3 a4 => lv_astore K.1 K.2.1 hd (aw_lh_has a1) hb rfl (fun la' hl => n H lo la' (aw_set1 hl (fun j w hj => aw_ac_of hj) hp) a2 a3 a4)
theorem aw_iinc (K : AOK w mi k) {i : Nat} {n0 : Int} {x v : Int32} (hd : decode mi.2.1 pc = .ok (.iinc i n0, 3)) (hl : L[i]? = some (some (.int x))) (hv : x + Int32.ofInt n0 = v) (hb : i < mi.2.2.1) (hp : ∀ (j : Nat) (o : Option Value), j + 1 = i → L[j]? = some o → aw_c1 o = true) (n : AW w P d mi k (pc + 3) (L.set i (some (.int v))) st h) : AW w P d mi k pc L st h := by
  obtain ⟨p, e, s, m, args, below, meth, c, A⟩ := k
  intro H lo la a1 a2 a3 a4
  have hh : lv_has la mi.2.2.1 ((i, .int x) :: aw_ac 0 L) := by
    refine ⟨a1.1, a1.2.1, fun q hq => ?_⟩
    rcases List.mem_cons.mp hq with rfl | hq
    · exact a1.2.2 i _ hl
    · exact (aw_lh_has a1).2.2 q hq
  exact lv_iinc K.1 K.2.1 hd hh (k := 0) rfl hv hb rfl (fun la' hl => n H lo la' (aw_set1 hl (fun j w hj => List.mem_cons_of_mem _ (aw_ac_of hj)) hp) a2 a3 a4)
/-- of a local no more is said -/
theorem aw_forget (n : ∀ L', (∀ (i : Nat) (v : Value), L'[i]? = some (some v) → L[i]? = some (some v)) → AW w P d mi k pc L' st h) {L' : List (Option Value)} (hL : ∀ (i : Nat) (v : Value), L'[i]? = some (some v) → L[i]? = some (some v)) : AW w P d mi k pc L st h := by
  have n := n L' hL
  obtain ⟨p, e, s, m, args, below, meth, c, A⟩ := k
  exact fun H lo la a1 a2 a3 a4 => n H lo la ⟨a1.1, a1.2.1, fun i v hv => a1.2.2 i v (hL i v hv)⟩ a2 a3 a4
def aw_less : List (Option Value) → List (Option Value) → Prop
  | [], _ => True
  | none :: r, _ :: r2 => aw_less r r2
  | some v :: r, o :: r2 => o = some v ∧ aw_less r r2
  | none :: r, [] => aw_less r []
  | some _ :: _, [] => False
theorem aw_less_at : ∀ (L' L : List (Option Value)), aw_less L' L → ∀ (i : Nat) (v : Value), L'[i]? = some (some v) → L[i]? = some (some v)
  | [], _, _, i, v, h => by simp at h
  | none :: r, _ :: r2, hl, i, v, h => by
    cases i with
    | zero => simp at h
    | succ i => simpa using aw_less_at r r2 hl i v (by simpa using h)
  | some a :: r, o :: r2, hl, i, v, h => by
    cases i with
    | zero => simp at h; simp [hl.1, h]
    | succ i => simpa using aw_less_at r r2 hl.2 i v (by simpa using h)
  | none :: r, [], hl, i, v, h => by
    cases i with
    | zero => simp at h
    | succ i => have := aw_less_at r [] hl i v (by simpa using h); simp at this
theorem aw_sub (L' : List (Option Value)) (hl : aw_less L' L) (n : AW w P d mi k pc L' st h) : AW w P d mi k pc L st h := by
  obtain ⟨p, e, s, m, args, below, meth, c, A⟩ := k
  exact fun H lo la a1 a2 a3 a4 => n H lo la ⟨a1.1, a1.2.1, fun i v hv => a1.2.2 i v (aw_less_at _ _ hl i v hv)⟩ a2 a3 a4
/-! returns -/
theorem aw_iret (K : AOK w mi k) {x : Int32} (hr : mi.2.2.2 = some .int) (hd : decode mi.2.1 pc = .ok (.ireturn, 1)) (hp : P (some (.int x)) h) : AW w P d mi k pc L [.int x] h := by
  obtain ⟨p, e, s, m, args, below, meth, c, A⟩ := k
  exact fun H lo la a1 a2 a3 a4 => W.iret K.1 K.2.1 (K.2.2.2.2.2.1.trans hr) (fun t ht _ => ⟨⟨_, h, rfl, hp, by rw [ht]; exact a2⟩, a4.F ht⟩) a4.2.2 hd K.2.2.2.2.2.2.1
theorem aw_zret (K : AOK w mi k) {x : Int32} (hr : mi.2.2.2 = some .boolean) (hd : decode mi.2.1 pc = .ok (.ireturn, 1)) (hn : narrow .boolean (.int x) = .int x) (hp : P (some (.int x)) h) : AW w P d mi k pc L [.int x] h := by
  obtain ⟨p, e, s, m, args, below, meth, c, A⟩ := k
  exact fun H lo la a1 a2 a3 a4 => W.zret K.1 K.2.1 (K.2.2.2.2.2.1.trans hr) hn (fun t ht _ => ⟨⟨_, h, rfl, hp, by rw [ht]; exact a2⟩, a4.F ht⟩) a4.2.2 hd K.2.2.2.2.2.2.1
theorem aw_lret (K : AOK w mi k) {x : Int64} (hr : mi.2.2.2 = some .long) (hd : decode mi.2.1 pc = .ok (.lreturn, 1)) (hp : P (some (.long x)) h) : AW w P d mi k pc L [.long x] h := by
  obtain ⟨p, e, s, m, args, below, meth, c, A⟩ := k
  exact fun H lo la a1 a2 a3 a4 => W.lret K.1 K.2.1 (K.2.2.2.2.2.1.trans hr) (fun t ht _ => ⟨⟨_, h, rfl, hp, by rw [ht]; exact a2⟩, a4.F ht⟩) a4.2.2 hd K.2.2.2.2.2.2.1
theorem aw_vret (K : AOK w mi k) (hr : mi.2.2.2 = none) (hd : decode mi.2.1 pc = .ok (.return_, 1)) (hp : P none h) : AW w P d mi k pc L [] h := by
  obtain ⟨p, e, s, m, args, below, meth, c, A⟩ := k
  exact fun H lo la a1 a2 a3 a4 => W.vret K.1 K.2.1 (K.2.2.2.2.2.1.trans hr) (fun t ht _ => ⟨⟨_, h, rfl, hp, by rw [ht]; exact a2⟩, a4.F ht⟩) a4.2.2 hd K.2.2.2.2.2.2.1
/-! fields -/
theorem aw_get (K : AOK w mi k) {index ci j i f n0 : Nat} {fs : List Nat} (fl : FL mi.1.cls index ci j) (hd : decode mi.2.1 pc = .ok (.getfield index, 3)) (hi : w.2.2.1[i]? = some (ci + 3, n0, fs)) (hf : fs[j]? = some f) (n : AW w P d mi k (pc + 3) L (aw_fv w.2.1 h i j f :: st) h) : AW w P d mi k pc L (.ref (w.2.1.2.1 i) :: st) h := by
  obtain ⟨p, e, s, m, args, below, meth, c, A⟩ := k
  obtain ⟨C, T, N, h1, h2, h3, h4, h5⟩ := fl
  obtain ⟨k1, k2, k3, k4, k5, k6, k7, k8, k9, k10, k11⟩ := K
  intro H lo la a1 a2 a3 a4
  refine va_get k1 k2 (Ts := aw_ws mi) k5 (fun w hw => List.mem_cons_of_mem _ (h4 w hw)) k4 k8 a2 i (aw_cz_at hi) h1 j h2 (k5 _ (List.mem_cons_of_mem _ h3)) (fun x hx => by rw [h5] at hx; exact hx) (aw_fs_at hf) hd (n H lo la a1 a2 a3 a4)
theorem aw_getI (K : AOK w mi k) {index ci j i n0 : Nat} {fs : List Nat} (fl : FL mi.1.cls index ci j) (hd : decode mi.2.1 pc = .ok (.getfield index, 3)) (hi : w.2.2.1[i]? = some (ci + 3, n0, fs)) (hf : fs[j]? = some 0) (n : AW w P d mi k (pc + 3) L (.int (h.1 i j) :: st) h) : AW w P d mi k pc L (.ref (w.2.1.2.1 i) :: st) h := aw_get K fl hd hi hf n
theorem aw_getL (K : AOK w mi k) {index ci j i n0 : Nat} {fs : List Nat} (fl : FL mi.1.cls index ci j) (hd : decode mi.2.1 pc = .ok (.getfield index, 3)) (hi : w.2.2.1[i]? = some (ci + 3, n0, fs)) (hf : fs[j]? = some 1) (n : AW w P d mi k (pc + 3) L (.long (h.2 i j) :: st) h) : AW w P d mi k pc L (.ref (w.2.1.2.1 i) :: st) h := aw_get K fl hd hi hf n
theorem aw_getR (K : AOK w mi k) {index ci j i n0 r : Nat} {fs : List Nat} (fl : FL mi.1.cls index ci j) (hd : decode mi.2.1 pc = .ok (.getfield index, 3)) (hi : w.2.2.1[i]? = some (ci + 3, n0, fs)) (hf : fs[j]? = some (r + 2)) (n : AW w P d mi k (pc + 3) L (.ref (w.2.1.2.1 r) :: st) h) : AW w P d mi k pc L (.ref (w.2.1.2.1 i) :: st) h := aw_get K fl hd hi hf n
theorem aw_putI (K : AOK w mi k) {index ci j i n0 : Nat} {fs : List Nat} {v : Int32} (fl : FL mi.1.cls index ci j) (fp : FP_ ci j .int) (hd : decode mi.2.1 pc = .ok (.putfield index, 3)) (hi : w.2.2.1[i]? = some (ci + 3, n0, fs)) (hf : fs[j]? = some 0) (n : AW w P d mi k (pc + 3) L st (setI h i j v)) : AW w P d mi k pc L (.int v :: .ref (w.2.1.2.1 i) :: st) h := by
  obtain ⟨p, e, s, m, args, below, meth, c, A⟩ := k
  obtain ⟨C, T, N, h1, h2, h3, h4, h5⟩ := fl
  obtain ⟨C', T', N', tys, g1, g2, g3, g4, g5⟩ := fp
  cases h1.symm.trans g1
  obtain ⟨k1, k2, k3, k4, k5, k6, k7, k8, k9, k10, k11⟩ := K
  intro H lo la a1 a2 a3 a4
  refine va_put k1 k2 (Ts := aw_ws mi) k5 (fun w hw => List.mem_cons_of_mem _ (h4 w hw)) tys g2 g3 k4 k8 a2 a3 a4 i (aw_cz_at hi) h1 j h2 (k5 _ (List.mem_cons_of_mem _ h3)) (fun x hx => by rw [h5] at hx; exact hx) g4 (ty := .int) g5 rfl rfl (by have := aw_fs_at (g := w.2.1) (h := h) (i := i) hf; exact (List.getElem?_eq_some_iff.mp this).1) hd (fun H1 lo1 b2 b3 b4 => ?_)
  have e1 : (aw_w w h).set i (w.2.1.2.1 i, .inr (ci, (aw_fs w.2.1 h i 0 fs).set j (.int v))) = aw_w w (setI h i j v) := by
    show _ = aw_cz _ _ _ _
    rw [aw_cz_set hi (fun a ha => setI_o (h := h) (j := j) (v := v) a ha)]
    show _ = (aw_cz w.2.1 h 0 w.2.2.1).set i (w.2.1.2.1 i, .inr (ci, aw_fs w.2.1 (setI h i j v) i 0 fs))
    rw [aw_fs_setI hf]
  rw [e1] at b2 b3
  exact n H1 lo1 la a1 b2 b3 b4
theorem aw_putL (K : AOK w mi k) {index ci j i n0 : Nat} {fs : List Nat} {v : Int64} (fl : FL mi.1.cls index ci j) (fp : FP_ ci j .long) (hd : decode mi.2.1 pc = .ok (.putfield index, 3)) (hi : w.2.2.1[i]? = some (ci + 3, n0, fs)) (hf : fs[j]? = some 1) (n : AW w P d mi k (pc + 3) L st (setL h i j v)) : AW w P d mi k pc L (.long v :: .ref (w.2.1.2.1 i) :: st) h := by
  obtain ⟨p, e, s, m, args, below, meth, c, A⟩ := k
  obtain ⟨C, T, N, h1, h2, h3, h4, h5⟩ := fl
  obtain ⟨C', T', N', tys, g1, g2, g3, g4, g5⟩ := fp
  cases h1.symm.trans g1
  obtain ⟨k1, k2, k3, k4, k5, k6, k7, k8, k9, k10, k11⟩ := K
  intro H lo la a1 a2 a3 a4
  refine va_put k1 k2 (Ts := aw_ws mi) k5 (fun w hw => List.mem_cons_of_mem _ (h4 w hw)) tys g2 g3 k4 k8 a2 a3 a4 i (aw_cz_at hi) h1 j h2 (k5 _ (List.mem_cons_of_mem _ h3)) (fun x hx => by rw [h5] at hx; exact hx) g4 (ty := .long) g5 rfl rfl (by have := aw_fs_at (g := w.2.1) (h := h) (i := i) hf; exact (List.getElem?_eq_some_iff.mp this).1) hd (fun H1 lo1 b2 b3 b4 => ?_)
  have e1 : (aw_w w h).set i (w.2.1.2.1 i, .inr (ci, (aw_fs w.2.1 h i 0 fs).set j (.long v))) = aw_w w (setL h i j v) := by
    show _ = aw_cz _ _ _ _
    rw [aw_cz_set hi (fun a ha => setL_o (h := h) (j := j) (v := v) a ha)]
    show _ = (aw_cz w.2.1 h 0 w.2.2.1).set i (w.2.1.2.1 i, .inr (ci, aw_fs w.2.1 (setL h i j v) i 0 fs))
    rw [aw_fs_setL hf]
  rw [e1] at b2 b3
  exact n H1 lo1 la a1 b2 b3 b4
/-! rows -/
theorem aw_iald (K : AOK w mi k) {i n0 : Nat} {fs : List Nat} {x : Int32} (hd : decode mi.2.1 pc = .ok (.iaload, 1)) (hi : w.2.2.1[i]? = some (0, n0, fs)) (hx : vp_in x n0) (n : AW w P d mi k (pc + 1) L (.int (h.1 i x.toNatClampNeg) :: st) h) : AW w P d mi k pc L (.int x :: .ref (w.2.1.2.1 i) :: st) h := by
  obtain ⟨p, e, s, m, args, below, meth, c, A⟩ := k
  obtain ⟨k1, k2, k3, k4, k5, k6, k7, k8, k9, k10, k11⟩ := K
  exact fun H lo la a1 a2 a3 a4 => va_iald k1 k2 k8 a2 i 0 (aw_cz_at hi) rfl hx hd (n H lo la a1 a2 a3 a4)
theorem aw_zald (K : AOK w mi k) {i n0 : Nat} {fs : List Nat} {x : Int32} (hd : decode mi.2.1 pc = .ok (.baload, 1)) (hi : w.2.2.1[i]? = some (1, n0, fs)) (hx : vp_in x n0) (n : AW w P d mi k (pc + 1) L (.int (h.1 i x.toNatClampNeg) :: st) h) : AW w P d mi k pc L (.int x :: .ref (w.2.1.2.1 i) :: st) h := by
  obtain ⟨p, e, s, m, args, below, meth, c, A⟩ := k
  obtain ⟨k1, k2, k3, k4, k5, k6, k7, k8, k9, k10, k11⟩ := K
  exact fun H lo la a1 a2 a3 a4 => va_zald k1 k2 k8 a2 i 1 (aw_cz_at hi) rfl hx hd (n H lo la a1 a2 a3 a4)
theorem aw_aald (K : AOK w mi k) {i n0 r : Nat} {fs : List Nat} {x : Int32} (hd : decode mi.2.1 pc = .ok (.aaload, 1)) (hi : w.2.2.1[i]? = some (2, n0, fs)) (hx : vp_in x n0) (hr : fs[x.toNatClampNeg]? = some r) (n : AW w P d mi k (pc + 1) L (.ref (w.2.1.2.1 r) :: st) h) : AW w P d mi k pc L (.int x :: .ref (w.2.1.2.1 i) :: st) h := by
  obtain ⟨p, e, s, m, args, below, meth, c, A⟩ := k
  obtain ⟨k1, k2, k3, k4, k5, k6, k7, k8, k9, k10, k11⟩ := K
  intro H lo la a1 a2 a3 a4
  refine va_aldq k1 k2 k8 a2 i 2 (aw_cz_at hi) rfl hx hd ?_
  rw [hr]
  exact n H lo la a1 a2 a3 a4
theorem aw_rowset {h : HS} {i : Nat} {f : Nat → Int32} {n0 : Nat} {fs : List Nat} (hi : w.2.2.1[i]? = some (0, n0, fs)) : (aw_w w h).set i (w.2.1.2.1 i, .inl (w.2.1.2.2.1, n0, .inl f)) = aw_w w (setR h i f) := by
  show _ = aw_cz _ _ _ _
  rw [aw_cz_set hi (fun a ha => setR_o (h := h) (f := f) a ha)]
  simp [aw_ce, setR]
theorem aw_rowsetZ {h : HS} {i : Nat} {f : Nat → Int32} {n0 : Nat} {fs : List Nat} (hi : w.2.2.1[i]? = some (1, n0, fs)) : (aw_w w h).set i (w.2.1.2.1 i, .inl (w.2.1.2.2.2.1, n0, .inl f)) = aw_w w (setR h i f) := by
  show _ = aw_cz _ _ _ _
  rw [aw_cz_set hi (fun a ha => setR_o (h := h) (f := f) a ha)]
  simp [aw_ce, setR]
theorem aw_iast (K : AOK w mi k) {i n0 : Nat} {fs : List Nat} {x v : Int32} (hd : decode mi.2.1 pc = .ok (.iastore, 1)) (hi : w.2.2.1[i]? = some (0, n0, fs)) (hx : vp_in x n0) (n : AW w P d mi k (pc + 1) L st (setI h i x.toNatClampNeg v)) : AW w P d mi k pc L (.int v :: .int x :: .ref (w.2.1.2.1 i) :: st) h := by
  obtain ⟨p, e, s, m, args, below, meth, c, A⟩ := k
  obtain ⟨k1, k2, k3, k4, k5, k6, k7, k8, k9, k10, k11⟩ := K
  intro H lo la a1 a2 a3 a4
  refine va_iast k1 k2 k8 a2 a3 a4 i 0 (aw_cz_at hi) rfl hx hd (fun H1 lo1 b2 b3 b4 => ?_)
  rw [aw_rowset hi] at b2 b3
  exact n H1 lo1 la a1 b2 b3 b4
theorem aw_zast (K : AOK w mi k) {i n0 : Nat} {fs : List Nat} {x v : Int32} (hd : decode mi.2.1 pc = .ok (.bastore, 1)) (hi : w.2.2.1[i]? = some (1, n0, fs)) (hx : vp_in x n0) (n : AW w P d mi k (pc + 1) L st (setI h i x.toNatClampNeg (vp_nar .boolean v))) : AW w P d mi k pc L (.int v :: .int x :: .ref (w.2.1.2.1 i) :: st) h := by
  obtain ⟨p, e, s, m, args, below, meth, c, A⟩ := k
  obtain ⟨k1, k2, k3, k4, k5, k6, k7, k8, k9, k10, k11⟩ := K
  intro H lo la a1 a2 a3 a4
  refine va_zast k1 k2 k8 a2 a3 a4 i 1 (aw_cz_at hi) rfl hx hd (fun H1 lo1 b2 b3 b4 => ?_)
  rw [aw_rowsetZ hi] at b2 b3
  exact n H1 lo1 la a1 b2 b3 b4
theorem aw_alen (K : AOK w mi k) {i n0 : Nat} {fs : List Nat} {v : Int32} (hd : decode mi.2.1 pc = .ok (.arraylength, 1)) (hi : w.2.2.1[i]? = some (0, n0, fs)) (hv : Int32.ofNat n0 = v) (n : AW w P d mi k (pc + 1) L (.int v :: st) h) : AW w P d mi k pc L (.ref (w.2.1.2.1 i) :: st) h := by
  obtain ⟨p, e, s, m, args, below, meth, c, A⟩ := k
  obtain ⟨k1, k2, k3, k4, k5, k6, k7, k8, k9, k10, k11⟩ := K
  exact fun H lo la a1 a2 a3 a4 => va_alen k1 k2 k8 a2 i 0 (aw_cz_at hi) rfl hv hd (n H lo la a1 a2 a3 a4)

end AWR
end
section
section AWC
variable {w : WT} {P : Option Value → HS → Prop} {d : Nat} {mi : MI} {k : KT} {pc : Nat} {L : List (Option Value)} {st : List Value} {h : HS}
theorem aw_after {p : Program} {e : Env} {s : State} {m : MethodId} {args : Array Value} {below : List Frame} {meth : Method} {c : Code} {A A1 : Nat → Prop} {H : Heap} {lo : List Loc} {la : Array Slot} {stk : List Value} {P' : Option Value → HS → Prop} {a : Array Value} {R : Room} {Q : State → Prop}
    (hr : va_Run p w.1 e R s m args below meth c H lo 0 0 0 0 (F0 m pc la stk) st (aw_Q w A1 P' a) A1) (hS : va_S A s.heap H lo) (hA : ∀ q, A1 q → A q)
    (kk : ∀ (o : Option Value) (h' : HS) (H1 : Heap) (lo1 : List Loc), P' o h' → va_P w.2.1.1 vwCl (aw_w w h') H1 → va_S A s.heap H1 lo1 → W p w.1 e R s m args below meth c H1 lo1 0 0 Q (F0 m (pc + 3) la (o.toList ++ st))) : W p w.1 e R s m args below meth c H lo 0 0 Q (F0 m pc la stk) := by
  intro T hT X
  obtain ⟨v, st₀, t, T', Lc, h0, X', hL, e1, e2, ⟨⟨o, h', hv, hp, hb⟩, hz, hk⟩, stp⟩ := hr T hT X
  cases hv
  rw [h0] at hz hk
  obtain ⟨t2, a1, b1⟩ := kk v h' T'.heap (lo ++ Lc) hp (by rw [e1]; exact hb)
    ⟨Nat.le_trans hS.1 (by rw [e1]; exact hz), fun q h1 h2 => by rw [e1, hk q (Nat.lt_of_lt_of_le h1 hS.1) (fun z => h2 (hA q z))]; exact hS.2.1 q h1 h2, fun q hq => by
      rcases List.mem_append.mp hq with h | h
      · exact hS.2.2 q h
      · exact hA _ (hL q h)⟩ T' rfl X'
  exact ⟨t2, stp t2 a1, b1⟩
theorem aw_blind {av : List Value} {sz : Nat} : FrameBlind (va_Pc av (aw_B w h sz)) := by
  intro a U g mk q
  obtain ⟨q0, q1, qP, qK, qD, qN, qZ⟩ := q
  exact ⟨q0, q1, qP, va_K.moved (u := U) (U := U.calling g mk a) (Vm.Alike.refl U.vm) qK, qD, aw_N.same (s := U) (U := U.calling g mk a) rfl qN, qZ.go (U := U.calling g mk a) (Vm.Alike.refl U.vm) (Nat.le_refl _) (fun _ _ _ => rfl) (fun _ h => h)⟩
theorem aw_AB {s : State} {A : Nat → Prop} {H : Heap} {lo : List Loc} (hA : ∀ q, s.heap.size ≤ q → A q) (hD : va_D A (aw_w w h)) (hS : va_S A s.heap H lo) : ∀ q, va_A (aw_w w h) H.size q → A q := by
  intro q hq
  rcases hq with ⟨i, e, hi⟩ | hq
  · exact hD.2 i _ hi
  · exact hA q (Nat.le_trans hS.1 hq)
theorem aw_pre {s : State} {A : Nat → Prop} {H : Heap} {lo : List Loc} {av : List Value} (hK : va_K w.2.1.1 vwCl (aw_tys w.2.1) s) (hA : ∀ q, s.heap.size ≤ q → A q) (hN : aw_N s) (hZ : aw_Z w.2.2.2 A s s.heap) (hP : va_P w.2.1.1 vwCl (aw_w w h) H) (hD : va_D A (aw_w w h)) (hS : va_S A s.heap H lo) :
    ∀ U : State, U.heap = H → s.WarmedH U.vm → va_Pc av (aw_B w h H.size) av.toArray U := by
  intro U hU hW
  exact ⟨rfl, by rw [hU], by rw [hU]; exact hP, va_K.moved hW.alike hK, hD.weaken (fun _ _ _ _ => trivial), hN.warm hW, by rw [hU]; exact hZ.go hW.alike hS.1 (fun a h1 h2 => hS.2.1 a h1 h2) (aw_AB hA hD hS)⟩
theorem aw_cb {s : State} {args : Array Value} {mi' : MI} {d' index na : Nat} (hts : ∀ w ∈ aw_ws mi, w.before args s = true) (mf : MF mi' na) (ml : ML mi.1.cls index mi') (hdd : d' < d) : CallB (aw_rm d) s args mi.1.cls index mi'.1 mi'.2.1 mi'.2.2.1 mi'.2.2.2 (aw_ws mi') (aw_rm d') 0 0 na := by
  obtain ⟨f1, f2, f3, f4⟩ := mf
  exact callB_of na hts (aw_goodIn f1) rfl rfl rfl (hts _ (List.mem_cons_of_mem _ f2)) (hts _ (List.mem_cons_of_mem _ ml)) f3 ⟨by show d' + 1 ≤ d; omega, by show 8 + (mi'.2.2.1 + 11) + 36 * d' ≤ 36 * d; omega⟩
/-- a call of a static method -/
theorem aw_callS (K : AOK w mi k) {mi' : MI} {d' index na : Nat} {As stk : List Value} {P' : Option Value → HS → Prop} (C : CT w d' mi' As h P') (hstk : stk = As.reverse ++ st) (hdd : d' < d) (mf : MFs mi' na) (ml : ML mi.1.cls index mi') (hd : decode mi.2.1 pc = .ok (.invokestatic index, 3)) (hna : As.length = na) (hst : (st.map fun v => v.category).sum ≤ 8)
    (n : ∀ o h', P' o h' → AW w P d mi k (pc + 3) L (o.toList ++ st) h') : AW w P d mi k pc L stk h := by
  subst hstk
  obtain ⟨p, e, s, m, args, below, meth, c, A⟩ := k
  obtain ⟨k1, k2, k3, k4, k5, k6, k7, k8, k9, k10, k11⟩ := K
  intro H lo la a1 a2 a3 a4
  refine aw_after (A := A) (va_runS (Ts := aw_ws mi) ⟨k1, k2, k3, k4, k5⟩ (C H.size) ⟨aw_cb k5 mf.1 ml hdd, k5 _ (List.mem_cons_of_mem _ mf.2)⟩ ⟨aw_blind, aw_pre k8 k9 k10 k11 a2 a3 a4⟩ rfl hna a1.1 rfl (lv_room hst) hd ⟨Nat.le_refl _, Nat.le_refl _⟩) a4 (aw_AB k9 a3 a4) (fun o h' H1 lo1 hp hP1 hS1 => ?_)
  exact n o h' hp H1 lo1 la a1 hP1 (aw_D_eq a3) hS1
/-- a call of a static method of a nest mate -/
theorem aw_callSN (K : AOK w mi k) {mi' : MI} {d' index na : Nat} {As stk : List Value} {P' : Option Value → HS → Prop} (C : CT w d' mi' As h P') (hstk : stk = As.reverse ++ st) (hdd : d' < d) (mf : MFs mi' na) (ml : MLN mi.1.cls index mi') (hd : decode mi.2.1 pc = .ok (.invokestatic index, 3)) (hna : As.length = na) (hst : (st.map fun v => v.category).sum ≤ 8)
    (n : ∀ o h', P' o h' → AW w P d mi k (pc + 3) L (o.toList ++ st) h') : AW w P d mi k pc L stk h := by
  subst hstk
  obtain ⟨p, e, s, m, args, below, meth, c, A⟩ := k
  obtain ⟨k1, k2, k3, k4, k5, k6, k7, k8, k9, k10, k11⟩ := K
  obtain ⟨⟨f1, f2, f3, f4⟩, f5⟩ := mf
  intro H lo la a1 a2 a3 a4
  refine aw_after (A := A) (va_runSN (Ts := aw_ws mi) ⟨k1, k2, k3, k4, k5⟩ (C H.size) ⟨va_cnB na k5 (aw_goodIn f1) rfl rfl rfl (k10 _ ml rfl) (k5 _ (List.mem_cons_of_mem _ f2)) f3 ⟨by show d' + 1 ≤ d; omega, by show 8 + (mi'.2.2.1 + 11) + 36 * d' ≤ 36 * d; omega⟩, k5 _ (List.mem_cons_of_mem _ f5), trivial⟩ ⟨aw_blind, aw_pre k8 k9 k10 k11 a2 a3 a4⟩ rfl hna a1.1 rfl (lv_room hst) hd ⟨Nat.le_refl _, Nat.le_refl _⟩) a4 (aw_AB k9 a3 a4) (fun o h' H1 lo1 hp hP1 hS1 => ?_)
  exact n o h' hp H1 lo1 la a1 hP1 (aw_D_eq a3) hS1
/-- a call on an object of the world -/
theorem aw_callV (K : AOK w mi k) {mi' : MI} {d' index na i ci n0 : Nat} {fs : List Nat} {As stk : List Value} {P' : Option Value → HS → Prop} (C : CT w d' mi' (.ref (w.2.1.2.1 i) :: As) h P') (hstk : stk = As.reverse ++ .ref (w.2.1.2.1 i) :: st) (hdd : d' < d) (mf : MFv mi' na) (ml : ML mi.1.cls index mi') (hd : decode mi.2.1 pc = .ok (.invokevirtual index, 3)) (hi : w.2.2.1[i]? = some (ci + 3, n0, fs)) (hc : CLS ci mi'.1.cls) (hna : As.length = na) (hst : (st.map fun v => v.category).sum ≤ 8)
    (n : ∀ o h', P' o h' → AW w P d mi k (pc + 3) L (o.toList ++ st) h') : AW w P d mi k pc L stk h := by
  subst hstk
  obtain ⟨p, e, s, m, args, below, meth, c, A⟩ := k
  obtain ⟨k1, k2, k3, k4, k5, k6, k7, k8, k9, k10, k11⟩ := K
  obtain ⟨q, c1, c2⟩ := hc
  intro H lo la a1 a2 a3 a4
  refine aw_after (A := A) (va_runV (C := mi'.1.cls) (b := w.2.1.2.1 i) (As := As) (rest := st) (Ts := aw_ws mi) ⟨k1, k2, k3, k4, k5⟩ (C H.size) ⟨aw_cb k5 mf.1 ml hdd, k5 _ (List.mem_cons_of_mem _ mf.2.1), k5 _ (List.mem_cons_of_mem _ mf.2.2)⟩ ⟨aw_blind, c2 ▸ va_recv k8 a2 c1 (aw_cz_at hi), aw_pre k8 k9 k10 k11 a2 a3 a4⟩ rfl hna a1.1 rfl (lv_room hst) hd ⟨Nat.le_refl _, Nat.le_refl _⟩) a4 (aw_AB k9 a3 a4) (fun o h' H1 lo1 hp hP1 hS1 => ?_)
  exact n o h' hp H1 lo1 la a1 hP1 (aw_D_eq a3) hS1
/-! ends that are told exactly -/
def DI (r : Int32) (h2 : HS) : Option Value → HS → Prop := fun o h' => o = some (.int r) ∧ h' = h2
def DL (r : Int64) (h2 : HS) : Option Value → HS → Prop := fun o h' => o = some (.long r) ∧ h' = h2
def DV (h2 : HS) : Option Value → HS → Prop := fun o h' => o = none ∧ h' = h2

theorem aw_callS_I (K : AOK w mi k) {mi' : MI} {d' index na : Nat} {As stk : List Value} {r : Int32} {h2 : HS} (C : CT w d' mi' As h (DI r h2)) (hstk : stk = As.reverse ++ st) (hdd : d' < d) (mf : MFs mi' na) (ml : ML mi.1.cls index mi') (hd : decode mi.2.1 pc = .ok (.invokestatic index, 3)) (hna : As.length = na) (hst : (st.map fun v => v.category).sum ≤ 8) (n : AW w P d mi k (pc + 3) L (.int r :: st) h2) : AW w P d mi k pc L stk h := aw_callS K C hstk hdd mf ml hd hna hst (fun o h' q => by obtain ⟨rfl, rfl⟩ := q; exact n)
theorem aw_callS_L (K : AOK w mi k) {mi' : MI} {d' index na : Nat} {As stk : List Value} {r : Int64} {h2 : HS} (C : CT w d' mi' As h (DL r h2)) (hstk : stk = As.reverse ++ st) (hdd : d' < d) (mf : MFs mi' na) (ml : ML mi.1.cls index mi') (hd : decode mi.2.1 pc = .ok (.invokestatic index, 3)) (hna : As.length = na) (hst : (st.map fun v => v.category).sum ≤ 8) (n : AW w P d mi k (pc + 3) L (.long r :: st) h2) : AW w P d mi k pc L stk h := aw_callS K C hstk hdd mf ml hd hna hst (fun o h' q => by obtain ⟨rfl, rfl⟩ := q; exact n)
theorem aw_callS_V (K : AOK w mi k) {mi' : MI} {d' index na : Nat} {As stk : List Value} {h2 : HS} (C : CT w d' mi' As h (DV h2)) (hstk : stk = As.reverse ++ st) (hdd : d' < d) (mf : MFs mi' na) (ml : ML mi.1.cls index mi') (hd : decode mi.2.1 pc = .ok (.invokestatic index, 3)) (hna : As.length = na) (hst : (st.map fun v => v.category).sum ≤ 8) (n : AW w P d mi k (pc + 3) L (st) h2) : AW w P d mi k pc L stk h := aw_callS K C hstk hdd mf ml hd hna hst (fun o h' q => by obtain ⟨rfl, rfl⟩ := q; exact n)
theorem aw_callSN_I (K : AOK w mi k) {mi' : MI} {d' index na : Nat} {As stk : List Value} {r : Int32} {h2 : HS} (C : CT w d' mi' As h (DI r h2)) (hstk : stk = As.reverse ++ st) (hdd : d' < d) (mf : MFs mi' na) (ml : MLN mi.1.cls index mi') (hd : decode mi.2.1 pc = .ok (.invokestatic index, 3)) (hna : As.length = na) (hst : (st.map fun v => v.category).sum ≤ 8) (n : AW w P d mi k (pc + 3) L (.int r :: st) h2) : AW w P d mi k pc L stk h := aw_callSN K C hstk hdd mf ml hd hna hst (fun o h' q => by obtain ⟨rfl, rfl⟩ := q; exact n)
theorem aw_callSN_L (K : AOK w mi k) {mi' : MI} {d' index na : Nat} {As stk : List Value} {r : Int64} {h2 : HS} (C : CT w d' mi' As h (DL r h2)) (hstk : stk = As.reverse ++ st) (hdd : d' < d) (mf : MFs mi' na) (ml : MLN mi.1.cls index mi') (hd : decode mi.2.1 pc = .ok (.invokestatic index, 3)) (hna : As.length = na) (hst : (st.map fun v => v.category).sum ≤ 8) (n : AW w P d mi k (pc + 3) L (.long r :: st) h2) : AW w P d mi k pc L stk h := aw_callSN K C hstk hdd mf ml hd hna hst (fun o h' q => by obtain ⟨rfl, rfl⟩ := q; exact n)
theorem aw_callSN_V (K : AOK w mi k) {mi' : MI} {d' index na : Nat} {As stk : List Value} {h2 : HS} (C : CT w d' mi' As h (DV h2)) (hstk : stk = As.reverse ++ st) (hdd : d' < d) (mf : MFs mi' na) (ml : MLN mi.1.cls index mi') (hd : decode mi.2.1 pc = .ok (.invokestatic index, 3)) (hna : As.length = na) (hst : (st.map fun v => v.category).sum ≤ 8) (n : AW w P d mi k (pc + 3) L (st) h2) : AW w P d mi k pc L stk h := aw_callSN K C hstk hdd mf ml hd hna hst (fun o h' q => by obtain ⟨rfl, rfl⟩ := q; exact n)
theorem aw_callV_I (K : AOK w mi k) {mi' : MI} {d' index na : Nat} {i ci n0 : Nat} {fs : List Nat} {As stk : List Value} {r : Int32} {h2 : HS} (C : CT w d' mi' (.ref (w.2.1.2.1 i) :: As) h (DI r h2)) (hstk : stk = As.reverse ++ .ref (w.2.1.2.1 i) :: st) (hdd : d' < d) (mf : MFv mi' na) (ml : ML mi.1.cls index mi') (hd : decode mi.2.1 pc = .ok (.invokevirtual index, 3)) (hi : w.2.2.1[i]? = some (ci + 3, n0, fs)) (hc : CLS ci mi'.1.cls) (hna : As.length = na) (hst : (st.map fun v => v.category).sum ≤ 8) (n : AW w P d mi k (pc + 3) L (.int r :: st) h2) : AW w P d mi k pc L stk h := aw_callV K C hstk hdd mf ml hd hi hc hna hst (fun o h' q => by obtain ⟨rfl, rfl⟩ := q; exact n)
theorem aw_callV_L (K : AOK w mi k) {mi' : MI} {d' index na : Nat} {i ci n0 : Nat} {fs : List Nat} {As stk : List Value} {r : Int64} {h2 : HS} (C : CT w d' mi' (.ref (w.2.1.2.1 i) :: As) h (DL r h2)) (hstk : stk = As.reverse ++ .ref (w.2.1.2.1 i) :: st) (hdd : d' < d) (mf : MFv mi' na) (ml : ML mi.1.cls index mi') (hd : decode mi.2.1 pc = .ok (.invokevirtual index, 3)) (hi : w.2.2.1[i]? = some (ci + 3, n0, fs)) (hc : CLS ci mi'.1.cls) (hna : As.length = na) (hst : (st.map fun v => v.category).sum ≤ 8) (n : AW w P d mi k (pc + 3) L (.long r :: st) h2) : AW w P d mi k pc L stk h := aw_callV K C hstk hdd mf ml hd hi hc hna hst (fun o h' q => by obtain ⟨rfl, rfl⟩ := q; exact n)
theorem aw_callV_V (K : AOK w mi k) {mi' : MI} {d' index na : Nat} {i ci n0 : Nat} {fs : List Nat} {As stk : List Value} {h2 : HS} (C : CT w d' mi' (.ref (w.2.1.2.1 i) :: As) h (DV h2)) (hstk : stk = As.reverse ++ .ref (w.2.1.2.1 i) :: st) (hdd : d' < d) (mf : MFv mi' na) (ml : ML mi.1.cls index mi') (hd : decode mi.2.1 pc = .ok (.invokevirtual index, 3)) (hi : w.2.2.1[i]? = some (ci + 3, n0, fs)) (hc : CLS ci mi'.1.cls) (hna : As.length = na) (hst : (st.map fun v => v.category).sum ≤ 8) (n : AW w P d mi k (pc + 3) L (st) h2) : AW w P d mi k pc L stk h := aw_callV K C hstk hdd mf ml hd hi hc hna hst (fun o h' q => by obtain ⟨rfl, rfl⟩ := q; exact n)
/-! constants of the pool -/
theorem aw_ldc (K : AOK w mi k) {index : Nat} {v : Int32} (hc : Cond.constant mi.1.cls index v ∈ aw_tb) (hd : decode mi.2.1 pc = .ok (.ldc index, 2)) (n : AW w P d mi k (pc + 2) L (.int v :: st) h) : AW w P d mi k pc L st h := by
  obtain ⟨p, e, s, m, args, below, meth, c, A⟩ := k
  obtain ⟨k1, k2, k3, k4, k5, k6, k7, k8, k9, k10, k11⟩ := K
  exact fun H lo la a1 a2 a3 a4 => lv_ldc k1 k2 k4 (k5 _ (List.mem_cons_of_mem _ hc)) hd (n H lo la a1 a2 a3 a4)
theorem aw_ldcw (K : AOK w mi k) {index : Nat} {v : Int32} (hc : Cond.constant mi.1.cls index v ∈ aw_tb) (hd : decode mi.2.1 pc = .ok (.ldc_w index, 3)) (n : AW w P d mi k (pc + 3) L (.int v :: st) h) : AW w P d mi k pc L st h := by
  obtain ⟨p, e, s, m, args, below, meth, c, A⟩ := k
  obtain ⟨k1, k2, k3, k4, k5, k6, k7, k8, k9, k10, k11⟩ := K
  exact fun H lo la a1 a2 a3 a4 => lv_ldcw k1 k2 k4 (k5 _ (List.mem_cons_of_mem _ hc)) hd (n H lo la a1 a2 a3 a4)
theorem aw_ldc2 (K : AOK w mi k) {index : Nat} {v : Int64} (hc : Cond.constantLong mi.1.cls index v ∈ aw_tb) (hd : decode mi.2.1 pc = .ok (.ldc2_w index, 3)) (n : AW w P d mi k (pc + 3) L (.long v :: st) h) : AW w P d mi k pc L st h := by
  obtain ⟨p, e, s, m, args, below, meth, c, A⟩ := k
  obtain ⟨k1, k2, k3, k4, k5, k6, k7, k8, k9, k10, k11⟩ := K
  exact fun H lo la a1 a2 a3 a4 => lv_ldc2 k1 k2 k4 (k5 _ (List.mem_cons_of_mem _ hc)) hd (n H lo la a1 a2 a3 a4)
/-! the static rows of rules -/
def aw_sn (i : Nat) : String := if i = 0 then "RULES_AT_FIRST" else if i = 1 then "RULES_LEAST" else "RULES_MOST"
def aw_sf (i : Nat) : Nat → Int32 := if i = 0 then aw_r0 else if i = 1 then aw_r1 else aw_r2
theorem aw_Z.at {sta : Nat → Nat} {A : Nat → Prop} {U : State} {H : Heap} (h : aw_Z sta A U H) (i : Nat) (hi : i < 3) : aw_Z1 (aw_sn i) (aw_sf i) (sta i) A U H := by
  match i, hi with
  | 0, _ => exact h.1
  | 1, _ => exact h.2.1
  | 2, _ => exact h.2.2
theorem aw_gets (K : AOK w mi k) {index i : Nat} (hi : i < 3) (hl : Cond.fieldLink mi.1.cls index "ManyNames" (aw_sn i) "[I" ∈ aw_tb) (hd : decode mi.2.1 pc = .ok (.getstatic index, 3)) (n : AW w P d mi k (pc + 3) L (.ref (w.2.2.2 i) :: st) h) : AW w P d mi k pc L st h := by
  obtain ⟨p, e, s, m, args, below, meth, c, A⟩ := k
  obtain ⟨k1, k2, k3, k4, k5, k6, k7, k8, k9, k10, k11⟩ := K
  exact fun H lo la a1 a2 a3 a4 => va_gets k1 k2 (k11.at i hi).1 a4 k4 (k5 _ (List.mem_cons_of_mem _ hl)) (fun _ hx => hx) hd (n H lo la a1 a2 a3 a4)
theorem aw_getsN (K : AOK w mi k) {index i : Nat} (hi : i < 3) (hl : Cond.fieldLinkNest mi.1.cls index "ManyNames" (aw_sn i) "[I" "ManyNames" ∈ lw_tbl) (hd : decode mi.2.1 pc = .ok (.getstatic index, 3)) (n : AW w P d mi k (pc + 3) L (.ref (w.2.2.2 i) :: st) h) : AW w P d mi k pc L st h := by
  obtain ⟨p, e, s, m, args, below, meth, c, A⟩ := k
  obtain ⟨k1, k2, k3, k4, k5, k6, k7, k8, k9, k10, k11⟩ := K
  exact fun H lo la a1 a2 a3 a4 => va_getsN k1 k2 (k11.at i hi).1 a4 k4 (va_Nw.use rfl (k10 _ hl rfl)) (fun _ hx => hx) hd (n H lo la a1 a2 a3 a4)
theorem aw_sld (K : AOK w mi k) {i : Nat} {x : Int32} (hi : i < 3) (hd : decode mi.2.1 pc = .ok (.iaload, 1)) (hx : vp_in x 10) (n : AW w P d mi k (pc + 1) L (.int (aw_sf i x.toNatClampNeg) :: st) h) : AW w P d mi k pc L (.int x :: .ref (w.2.2.2 i) :: st) h := by
  obtain ⟨p, e, s, m, args, below, meth, c, A⟩ := k
  obtain ⟨k1, k2, k3, k4, k5, k6, k7, k8, k9, k10, k11⟩ := K
  have hz := k11.at i hi
  exact fun H lo la a1 a2 a3 a4 => va_sld k1 k2 hz.2.1 hz.2.2.1 hz.2.2.2 a4 hx hd (n H lo la a1 a2 a3 a4)
/-! System.arraycopy -/
def CPW (own : String) (index : Nat) : Prop := Cond.methodLink own index arraycopyName ∈ aw_tb ∧ Cond.native arraycopyName ∈ lw_tbl ∧ Cond.static arraycopyName ∈ aw_tb ∧ Cond.initialized "java/lang/System" ∈ aw_tb
theorem aw_copyS (K : AOK w mi k) {index i q n0 : Nat} {fs : List Nat} {sp dp n1 : Int32} (hi : i < 3) (cp : CPW mi.1.cls index) (hnat : Cond.native arraycopyName ∈ aw_tb) (hq : w.2.2.1[q]? = some (0, n0, fs)) (h1 : ¬ sp < 0) (h2 : ¬ dp < 0) (h3 : ¬ n1 < 0) (h4 : sp.toNatClampNeg + n1.toNatClampNeg ≤ 10) (h5 : dp.toNatClampNeg + n1.toNatClampNeg ≤ n0) (hf : 1 ≤ d) (hlo : (st.map fun v => v.category).sum + (nativeFrameWords "java/lang/System" "arraycopy" 5 + 11) ≤ 36 * d) (hd : decode mi.2.1 pc = .ok (.invokestatic index, 3))
    (n : AW w P d mi k (pc + 3) L st (setR h q (va_cpy (aw_sf i) (h.1 q) sp.toNatClampNeg dp.toNatClampNeg n1.toNatClampNeg))) : AW w P d mi k pc L (.int n1 :: .int dp :: .ref (w.2.1.2.1 q) :: .int sp :: .ref (w.2.2.2 i) :: st) h := by
  obtain ⟨p, e, s, m, args, below, meth, c, A⟩ := k
  obtain ⟨k1, k2, k3, k4, k5, k6, k7, k8, k9, k10, k11⟩ := K
  have hz := k11.at i hi
  intro H lo la a1 a2 a3 a4
  refine va_copyx k1 k2 (k3.trans a1.1.symm) k4 (k5 _ (List.mem_cons_of_mem _ cp.1)) (k5 _ (List.mem_cons_of_mem _ hnat)) (k5 _ (List.mem_cons_of_mem _ cp.2.2.1)) (k5 _ (List.mem_cons_of_mem _ cp.2.2.2)) k8 a2 a3 a4 hz.2.1 hz.2.2.1 hz.2.2.2 q 0 (aw_cz_at hq) rfl h1 h2 h3 h4 h5 hf hlo hd (fun H1 lo1 b2 b3 b4 => ?_)
  rw [aw_rowset hq] at b2 b3
  exact n H1 lo1 la a1 b2 b3 b4
theorem aw_copy (K : AOK w mi k) {index i q n0 n2 : Nat} {fs fs2 : List Nat} {sp dp n1 : Int32} (cp : CPW mi.1.cls index) (hnat : Cond.native arraycopyName ∈ aw_tb) (hi : w.2.2.1[i]? = some (0, n2, fs2)) (hq : w.2.2.1[q]? = some (0, n0, fs)) (h1 : ¬ sp < 0) (h2 : ¬ dp < 0) (h3 : ¬ n1 < 0) (h4 : sp.toNatClampNeg + n1.toNatClampNeg ≤ n2) (h5 : dp.toNatClampNeg + n1.toNatClampNeg ≤ n0) (hf : 1 ≤ d) (hlo : (st.map fun v => v.category).sum + (nativeFrameWords "java/lang/System" "arraycopy" 5 + 11) ≤ 36 * d) (hd : decode mi.2.1 pc = .ok (.invokestatic index, 3))
    (n : AW w P d mi k (pc + 3) L st (setR h q (va_cpy (h.1 i) (h.1 q) sp.toNatClampNeg dp.toNatClampNeg n1.toNatClampNeg))) : AW w P d mi k pc L (.int n1 :: .int dp :: .ref (w.2.1.2.1 q) :: .int sp :: .ref (w.2.1.2.1 i) :: st) h := by
  obtain ⟨p, e, s, m, args, below, meth, c, A⟩ := k
  obtain ⟨k1, k2, k3, k4, k5, k6, k7, k8, k9, k10, k11⟩ := K
  intro H lo la a1 a2 a3 a4
  refine va_copyi k1 k2 (k3.trans a1.1.symm) k4 (k5 _ (List.mem_cons_of_mem _ cp.1)) (k5 _ (List.mem_cons_of_mem _ hnat)) (k5 _ (List.mem_cons_of_mem _ cp.2.2.1)) (k5 _ (List.mem_cons_of_mem _ cp.2.2.2)) k8 a2 a3 a4 i q 0 0 (aw_cz_at hi) (aw_cz_at hq) rfl rfl rfl h1 h2 h3 h4 h5 (fun _ _ => rfl) hf hlo hd (fun H1 lo1 b2 b3 b4 => ?_)
  rw [aw_rowset hq] at b2 b3
  exact n H1 lo1 la a1 b2 b3 b4
/-! Math -/
theorem aw_mmax (K : AOK w mi k) {index : Nat} {x y : Int32} (c1 : Cond.methodLink mi.1.cls index Lib.Math.max.name ∈ aw_tb) (c2 : Cond.static Lib.Math.max.name ∈ aw_tb) (c3 : Cond.initialized "java/lang/Math" ∈ aw_tb) (c4 : Cond.code Lib.Math.max.name Lib.Math.max.code 2 (some .int) ∈ aw_tb) (hf : 1 ≤ d) (hlo : (st.map fun v => v.category).sum + 13 ≤ 36 * d) (hd : decode mi.2.1 pc = .ok (.invokestatic index, 3))
    (n : AW w P d mi k (pc + 3) L (.int (if x < y then y else x) :: st) h) : AW w P d mi k pc L (.int y :: .int x :: st) h := by
  obtain ⟨p, e, s, m, args, below, meth, c, A⟩ := k
  obtain ⟨k1, k2, k3, k4, k5, k6, k7, k8, k9, k10, k11⟩ := K
  exact fun H lo la a1 a2 a3 a4 => va_mmax k1 k2 (k3.trans a1.1.symm) k4 (k5 _ (List.mem_cons_of_mem _ c1)) (k5 _ (List.mem_cons_of_mem _ c2)) (k5 _ (List.mem_cons_of_mem _ c3)) (k5 _ (List.mem_cons_of_mem _ c4)) hf hlo (Nat.zero_le _) (Nat.zero_le _) hd (n H lo la a1 a2 a3 a4)
theorem aw_mmin (K : AOK w mi k) {index : Nat} {x y : Int32} (c1 : Cond.methodLink mi.1.cls index Lib.Math.min.name ∈ aw_tb) (c2 : Cond.static Lib.Math.min.name ∈ aw_tb) (c3 : Cond.initialized "java/lang/Math" ∈ aw_tb) (c4 : Cond.code Lib.Math.min.name Lib.Math.min.code 2 (some .int) ∈ aw_tb) (hf : 1 ≤ d) (hlo : (st.map fun v => v.category).sum + 13 ≤ 36 * d) (hd : decode mi.2.1 pc = .ok (.invokestatic index, 3))
    (n : AW w P d mi k (pc + 3) L (.int (if y < x then y else x) :: st) h) : AW w P d mi k pc L (.int y :: .int x :: st) h := by
  obtain ⟨p, e, s, m, args, below, meth, c, A⟩ := k
  obtain ⟨k1, k2, k3, k4, k5, k6, k7, k8, k9, k10, k11⟩ := K
  exact fun H lo la a1 a2 a3 a4 => va_mmin k1 k2 (k3.trans a1.1.symm) k4 (k5 _ (List.mem_cons_of_mem _ c1)) (k5 _ (List.mem_cons_of_mem _ c2)) (k5 _ (List.mem_cons_of_mem _ c3)) (k5 _ (List.mem_cons_of_mem _ c4)) hf hlo (Nat.zero_le _) (Nat.zero_le _) hd (n H lo la a1 a2 a3 a4)
/-! switches -/
def aw_sw (pc : Nat) (x : Int32) (F : Nat → Prop) : Int → List Int → Prop
  | _, [] => True
  | v, off :: r => (x.toInt = v → F ((pc : Int) + off).toNat) ∧ aw_sw pc x F (v + 1) r
def aw_swp (pc : Nat) : List Int → Bool
  | [] => true
  | off :: r => decide (0 ≤ (pc : Int) + off) && aw_swp pc r
theorem aw_sw_at {pc : Nat} {x : Int32} {F : Nat → Prop} : ∀ (offs : List Int) (lo : Int) (i : Nat) (off : Int), aw_sw pc x F lo offs → aw_swp pc offs = true → offs[i]? = some off → x.toInt = lo + i → F ((pc : Int) + off).toNat ∧ 0 ≤ (pc : Int) + off
  | [], lo, i, off, _, _, h, _ => by simp at h
  | o :: r, lo, 0, off, hs, hp, h, hx => by
    simp at h
    subst h
    simp only [aw_swp, Bool.and_eq_true, decide_eq_true_eq] at hp
    exact ⟨hs.1 (by simpa using hx), hp.1⟩
  | o :: r, lo, i + 1, off, hs, hp, h, hx => by
    simp only [aw_swp, Bool.and_eq_true, decide_eq_true_eq] at hp
    exact aw_sw_at r (lo + 1) i off hs.2 hp.2 (by simpa using h) (by rw [hx]; push_cast; omega)
theorem aw_tsw (K : AOK w mi k) {dflt lo hi : Int} {offs : Array Int} {len tgt : Nat} {x : Int32} (hd : decode mi.2.1 pc = .ok (.tableswitch dflt lo hi offs, len)) (ht : (pc : Int) + dflt = (tgt : Int)) (hsz : lo + offs.size = hi + 1) (hp : aw_swp pc offs.toList = true)
    (hs : aw_sw pc x (fun t => AW w P d mi k t L st h) lo offs.toList) (hdef : (x.toInt < lo ∨ hi < x.toInt) → AW w P d mi k tgt L st h) : AW w P d mi k pc L (.int x :: st) h := by
  by_cases hx : x.toInt < lo ∨ hi < x.toInt
  · have hn := hdef hx
    obtain ⟨p, e, s, m, args, below, meth, c, A⟩ := k
    exact fun H l1 la a1 a2 a3 a4 => lv_tableOut K.1 K.2.1 hd hx ht (hn H l1 la a1 a2 a3 a4)
  · have h1 : ¬ x.toInt < lo := fun q => hx (Or.inl q)
    have h2 : ¬ hi < x.toInt := fun q => hx (Or.inr q)
    have hlt : (x.toInt - lo).toNat < offs.size := by omega
    obtain ⟨hF, h0⟩ := aw_sw_at offs.toList lo (x.toInt - lo).toNat offs[(x.toInt - lo).toNat] hs hp (by rw [Array.getElem?_toList]; exact Array.getElem?_eq_getElem hlt) (by omega)
    obtain ⟨p, e, s, m, args, below, meth, c, A⟩ := k
    exact fun H l1 la a1 a2 a3 a4 => lv_tableIn K.1 K.2.1 hd h1 h2 (Array.getElem?_eq_getElem hlt) (by omega) (hF H l1 la a1 a2 a3 a4)
end AWC
end
section
section AWL
variable {w : WT} {P : Option Value → HS → Prop} {d : Nat} {mi : MI} {k : KT} {pc : Nat} {st : List Value} {h : HS}
theorem aw_il0 (K : AOK w mi k) {r : List (Option Value)} {x : Int32} (hd : decode mi.2.1 pc = .ok (.iload_n 0, 1)) (n : AW w P d mi k (pc + 1) (some (.int x) :: r) (.int x :: st) h) : AW w P d mi k pc (some (.int x) :: r) st h := aw_iload_n K hd rfl rfl n
theorem aw_is0 (K : AOK w mi k) {b : Option Value} {r : List (Option Value)} {x : Int32} (hd : decode mi.2.1 pc = .ok (.istore_n 0, 1)) (hb : 0 < mi.2.2.1) (n : AW w P d mi k (pc + 1) (some (.int x) :: r) st h) : AW w P d mi k pc (b :: r) (.int x :: st) h := aw_istore_n K hd rfl hb (fun j o hj _ => by omega) n
theorem aw_ll0 (K : AOK w mi k) {r : List (Option Value)} {x : Int64} (hd : decode mi.2.1 pc = .ok (.lload_n 0, 1)) (n : AW w P d mi k (pc + 1) (some (.long x) :: r) (.long x :: st) h) : AW w P d mi k pc (some (.long x) :: r) st h := aw_lload_n K hd rfl rfl n
theorem aw_ls0 (K : AOK w mi k) {b b2 : Option Value} {r : List (Option Value)} {x : Int64} (hd : decode mi.2.1 pc = .ok (.lstore_n 0, 1)) (hb : 1 < mi.2.2.1) (n : AW w P d mi k (pc + 1) (some (.long x) :: none :: r) st h) : AW w P d mi k pc (b :: b2 :: r) (.long x :: st) h := aw_lstore_n K hd rfl hb (fun j o hj _ => by omega) n
theorem aw_al0 (K : AOK w mi k) {r : List (Option Value)} {x : Nat} (hd : decode mi.2.1 pc = .ok (.aload_n 0, 1)) (n : AW w P d mi k (pc + 1) (some (.ref x) :: r) (.ref x :: st) h) : AW w P d mi k pc (some (.ref x) :: r) st h := aw_aload_n K hd rfl rfl n
theorem aw_as0 (K : AOK w mi k) {b : Option Value} {r : List (Option Value)} {x : Nat} (hd : decode mi.2.1 pc = .ok (.astore_n 0, 1)) (hb : 0 < mi.2.2.1) (n : AW w P d mi k (pc + 1) (some (.ref x) :: r) st h) : AW w P d mi k pc (b :: r) (.ref x :: st) h := aw_astore_n K hd rfl hb (fun j o hj _ => by omega) n
theorem aw_ii0 (K : AOK w mi k) {r : List (Option Value)} {x v : Int32} {n0 : Int} (hd : decode mi.2.1 pc = .ok (.iinc 0 n0, 3)) (hv : x + Int32.ofInt n0 = v) (hb : 0 < mi.2.2.1) (n : AW w P d mi k (pc + 3) (some (.int v) :: r) st h) : AW w P d mi k pc (some (.int x) :: r) st h := aw_iinc K hd rfl hv hb (fun j o hj _ => by omega) n
theorem aw_il1 (K : AOK w mi k) {a0 : Option Value} {r : List (Option Value)} {x : Int32} (hd : decode mi.2.1 pc = .ok (.iload_n 1, 1)) (n : AW w P d mi k (pc + 1) (a0 :: some (.int x) :: r) (.int x :: st) h) : AW w P d mi k pc (a0 :: some (.int x) :: r) st h := aw_iload_n K hd rfl rfl n
theorem aw_is1 (K : AOK w mi k) {a0 : Option Value} {b : Option Value} {r : List (Option Value)} {x : Int32} (hd : decode mi.2.1 pc = .ok (.istore_n 1, 1)) (hb : 1 < mi.2.2.1) (hp : aw_c1 a0 = true) (n : AW w P d mi k (pc + 1) (a0 :: some (.int x) :: r) st h) : AW w P d mi k pc (a0 :: b :: r) (.int x :: st) h := aw_istore_n K hd rfl hb (fun j o hj ho => by
  obtain rfl : j = 0 := by omega
  simp at ho
  subst ho
  exact hp) n
theorem aw_ll1 (K : AOK w mi k) {a0 : Option Value} {r : List (Option Value)} {x : Int64} (hd : decode mi.2.1 pc = .ok (.lload_n 1, 1)) (n : AW w P d mi k (pc + 1) (a0 :: some (.long x) :: r) (.long x :: st) h) : AW w P d mi k pc (a0 :: some (.long x) :: r) st h := aw_lload_n K hd rfl rfl n
theorem aw_ls1 (K : AOK w mi k) {a0 : Option Value} {b b2 : Option Value} {r : List (Option Value)} {x : Int64} (hd : decode mi.2.1 pc = .ok (.lstore_n 1, 1)) (hb : 2 < mi.2.2.1) (hp : aw_c1 a0 = true) (n : AW w P d mi k (pc + 1) (a0 :: some (.long x) :: none :: r) st h) : AW w P d mi k pc (a0 :: b :: b2 :: r) (.long x :: st) h := aw_lstore_n K hd rfl hb (fun j o hj ho => by
  obtain rfl : j = 0 := by omega
  simp at ho
  subst ho
  exact hp) n
theorem aw_al1 (K : AOK w mi k) {a0 : Option Value} {r : List (Option Value)} {x : Nat} (hd : decode mi.2.1 pc = .ok (.aload_n 1, 1)) (n : AW w P d mi k (pc + 1) (a0 :: some (.ref x) :: r) (.ref x :: st) h) : AW w P d mi k pc (a0 :: some (.ref x) :: r) st h := aw_aload_n K hd rfl rfl n
theorem aw_as1 (K : AOK w mi k) {a0 : Option Value} {b : Option Value} {r : List (Option Value)} {x : Nat} (hd : decode mi.2.1 pc = .ok (.astore_n 1, 1)) (hb : 1 < mi.2.2.1) (hp : aw_c1 a0 = true) (n : AW w P d mi k (pc + 1) (a0 :: some (.ref x) :: r) st h) : AW w P d mi k pc (a0 :: b :: r) (.ref x :: st) h := aw_astore_n K hd rfl hb (fun j o hj ho => by
  obtain rfl : j = 0 := by omega
  simp at ho
  subst ho
  exact hp) n
theorem aw_ii1 (K : AOK w mi k) {a0 : Option Value} {r : List (Option Value)} {x v : Int32} {n0 : Int} (hd : decode mi.2.1 pc = .ok (.iinc 1 n0, 3)) (hv : x + Int32.ofInt n0 = v) (hb : 1 < mi.2.2.1) (hp : aw_c1 a0 = true) (n : AW w P d mi k (pc + 3) (a0 :: some (.int v) :: r) st h) : AW w P d mi k pc (a0 :: some (.int x) :: r) st h := aw_iinc K hd rfl hv hb (fun j o hj ho => by
  obtain rfl : j = 0 := by omega
  simp at ho
  subst ho
  exact hp) n
theorem aw_il2 (K : AOK w mi k) {a0 a1 : Option Value} {r : List (Option Value)} {x : Int32} (hd : decode mi.2.1 pc = .ok (.iload_n 2, 1)) (n : AW w P d mi k (pc + 1) (a0 :: a1 :: some (.int x) :: r) (.int x :: st) h) : AW w P d mi k pc (a0 :: a1 :: some (.int x) :: r) st h := aw_iload_n K hd rfl rfl n
theorem aw_is2 (K : AOK w mi k) {a0 a1 : Option Value} {b : Option Value} {r : List (Option Value)} {x : Int32} (hd : decode mi.2.1 pc = .ok (.istore_n 2, 1)) (hb : 2 < mi.2.2.1) (hp : aw_c1 a1 = true) (n : AW w P d mi k (pc + 1) (a0 :: a1 :: some (.int x) :: r) st h) : AW w P d mi k pc (a0 :: a1 :: b :: r) (.int x :: st) h := aw_istore_n K hd rfl hb (fun j o hj ho => by
  obtain rfl : j = 1 := by omega
  simp at ho
  subst ho
  exact hp) n
theorem aw_ll2 (K : AOK w mi k) {a0 a1 : Option Value} {r : List (Option Value)} {x : Int64} (hd : decode mi.2.1 pc = .ok (.lload_n 2, 1)) (n : AW w P d mi k (pc + 1) (a0 :: a1 :: some (.long x) :: r) (.long x :: st) h) : AW w P d mi k pc (a0 :: a1 :: some (.long x) :: r) st h := aw_lload_n K hd rfl rfl n
theorem aw_ls2 (K : AOK w mi k) {a0 a1 : Option Value} {b b2 : Option Value} {r : List (Option Value)} {x : Int64} (hd : decode mi.2.1 pc = .ok (.lstore_n 2, 1)) (hb : 3 < mi.2.2.1) (hp : aw_c1 a1 = true) (n : AW w P d mi k (pc + 1) (a0 :: a1 :: some (.long x) :: none :: r) st h) : AW w P d mi k pc (a0 :: a1 :: b :: b2 :: r) (.long x :: st) h := aw_lstore_n K hd rfl hb (fun j o hj ho => by
  obtain rfl : j = 1 := by omega
  simp at ho
  subst ho
  exact hp) n
theorem aw_al2 (K : AOK w mi k) {a0 a1 : Option Value} {r : List (Option Value)} {x : Nat} (hd : decode mi.2.1 pc = .ok (.aload_n 2, 1)) (n : AW w P d mi k (pc + 1) (a0 :: a1 :: some (.ref x) :: r) (.ref x :: st) h) : AW w P d mi k pc (a0 :: a1 :: some (.ref x) :: r) st h := aw_aload_n K hd rfl rfl n
theorem aw_as2 (K : AOK w mi k) {a0 a1 : Option Value} {b : Option Value} {r : List (Option Value)} {x : Nat} (hd : decode mi.2.1 pc = .ok (.astore_n 2, 1)) (hb : 2 < mi.2.2.1) (hp : aw_c1 a1 = true) (n : AW w P d mi k (pc + 1) (a0 :: a1 :: some (.ref x) :: r) st h) : AW w P d mi k pc (a0 :: a1 :: b :: r) (.ref x :: st) h := aw_astore_n K hd rfl hb (fun j o hj ho => by
  obtain rfl : j = 1 := by omega
  simp at ho
  subst ho
  exact hp) n
theorem aw_ii2 (K : AOK w mi k) {a0 a1 : Option Value} {r : List (Option Value)} {x v : Int32} {n0 : Int} (hd : decode mi.2.1 pc = .ok (.iinc 2 n0, 3)) (hv : x + Int32.ofInt n0 = v) (hb : 2 < mi.2.2.1) (hp : aw_c1 a1 = true) (n : AW w P d mi k (pc + 3) (a0 :: a1 :: some (.int v) :: r) st h) : AW w P d mi k pc (a0 :: a1 :: some (.int x) :: r) st h := aw_iinc K hd rfl hv hb (fun j o hj ho => by
  obtain rfl : j = 1 := by omega
  simp at ho
  subst ho
  exact hp) n
theorem aw_il3 (K : AOK w mi k) {a0 a1 a2 : Option Value} {r : List (Option Value)} {x : Int32} (hd : decode mi.2.1 pc = .ok (.iload_n 3, 1)) (n : AW w P d mi k (pc + 1) (a0 :: a1 :: a2 :: some (.int x) :: r) (.int x :: st) h) : AW w P d mi k pc (a0 :: a1 :: a2 :: some (.int x) :: r) st h := aw_iload_n K hd rfl rfl n
theorem aw_is3 (K : AOK w mi k) {a0 a1 a2 : Option Value} {b : Option Value} {r : List (Option Value)} {x : Int32} (hd : decode mi.2.1 pc = .ok (.istore_n 3, 1)) (hb : 3 < mi.2.2.1) (hp : aw_c1 a2 = true) (n : AW w P d mi k (pc + 1) (a0 :: a1 :: a2 :: some (.int x) :: r) st h) : AW w P d mi k pc (a0 :: a1 :: a2 :: b :: r) (.int x :: st) h := aw_istore_n K hd rfl hb (fun j o hj ho => by
  obtain rfl : j = 2 := by omega
  simp at ho
  subst ho
  exact hp) n
theorem aw_ll3 (K : AOK w mi k) {a0 a1 a2 : Option Value} {r : List (Option Value)} {x : Int64} (hd : decode mi.2.1 pc = .ok (.lload_n 3, 1)) (n : AW w P d mi k (pc + 1) (a0 :: a1 :: a2 :: some (.long x) :: r) (.long x :: st) h) : AW w P d mi k pc (a0 :: a1 :: a2 :: some (.long x) :: r) st h := aw_lload_n K hd rfl rfl n
theorem aw_ls3 (K : AOK w mi k) {a0 a1 a2 : Option Value} {b b2 : Option Value} {r : List (Option Value)} {x : Int64} (hd : decode mi.2.1 pc = .ok (.lstore_n 3, 1)) (hb : 4 < mi.2.2.1) (hp : aw_c1 a2 = true) (n : AW w P d mi k (pc + 1) (a0 :: a1 :: a2 :: some (.long x) :: none :: r) st h) : AW w P d mi k pc (a0 :: a1 :: a2 :: b :: b2 :: r) (.long x :: st) h := aw_lstore_n K hd rfl hb (fun j o hj ho => by
  obtain rfl : j = 2 := by omega
  simp at ho
  subst ho
  exact hp) n
theorem aw_al3 (K : AOK w mi k) {a0 a1 a2 : Option Value} {r : List (Option Value)} {x : Nat} (hd : decode mi.2.1 pc = .ok (.aload_n 3, 1)) (n : AW w P d mi k (pc + 1) (a0 :: a1 :: a2 :: some (.ref x) :: r) (.ref x :: st) h) : AW w P d mi k pc (a0 :: a1 :: a2 :: some (.ref x) :: r) st h := aw_aload_n K hd rfl rfl n
theorem aw_as3 (K : AOK w mi k) {a0 a1 a2 : Option Value} {b : Option Value} {r : List (Option Value)} {x : Nat} (hd : decode mi.2.1 pc = .ok (.astore_n 3, 1)) (hb : 3 < mi.2.2.1) (hp : aw_c1 a2 = true) (n : AW w P d mi k (pc + 1) (a0 :: a1 :: a2 :: some (.ref x) :: r) st h) : AW w P d mi k pc (a0 :: a1 :: a2 :: b :: r) (.ref x :: st) h := aw_astore_n K hd rfl hb (fun j o hj ho => by
  obtain rfl : j = 2 := by omega
  simp at ho
  subst ho
  exact hp) n
theorem aw_ii3 (K : AOK w mi k) {a0 a1 a2 : Option Value} {r : List (Option Value)} {x v : Int32} {n0 : Int} (hd : decode mi.2.1 pc = .ok (.iinc 3 n0, 3)) (hv : x + Int32.ofInt n0 = v) (hb : 3 < mi.2.2.1) (hp : aw_c1 a2 = true) (n : AW w P d mi k (pc + 3) (a0 :: a1 :: a2 :: some (.int v) :: r) st h) : AW w P d mi k pc (a0 :: a1 :: a2 :: some (.int x) :: r) st h := aw_iinc K hd rfl hv hb (fun j o hj ho => by
  obtain rfl : j = 2 := by omega
  simp at ho
  subst ho
  exact hp) n
theorem aw_il4 (K : AOK w mi k) {a0 a1 a2 a3 : Option Value} {r : List (Option Value)} {x : Int32} (hd : decode mi.2.1 pc = .ok (.iload 4, 2)) (n : AW w P d mi k (pc + 2) (a0 :: a1 :: a2 :: a3 :: some (.int x) :: r) (.int x :: st) h) : AW w P d mi k pc (a0 :: a1 :: a2 :: a3 :: some (.int x) :: r) st h := aw_iload K hd rfl n
theorem aw_is4 (K : AOK w mi k) {a0 a1 a2 a3 : Option Value} {b : Option Value} {r : List (Option Value)} {x : Int32} (hd : decode mi.2.1 pc = .ok (.istore 4, 2)) (hb : 4 < mi.2.2.1) (hp : aw_c1 a3 = true) (n : AW w P d mi k (pc + 2) (a0 :: a1 :: a2 :: a3 :: some (.int x) :: r) st h) : AW w P d mi k pc (a0 :: a1 :: a2 :: a3 :: b :: r) (.int x :: st) h := aw_istore K hd hb (fun j o hj ho => by
  obtain rfl : j = 3 := by omega
  simp at ho
  subst ho
  exact hp) n
theorem aw_ll4 (K : AOK w mi k) {a0 a1 a2 a3 : Option Value} {r : List (Option Value)} {x : Int64} (hd : decode mi.2.1 pc = .ok (.lload 4, 2)) (n : AW w P d mi k (pc + 2) (a0 :: a1 :: a2 :: a3 :: some (.long x) :: r) (.long x :: st) h) : AW w P d mi k pc (a0 :: a1 :: a2 :: a3 :: some (.long x) :: r) st h := aw_lload K hd rfl n
theorem aw_ls4 (K : AOK w mi k) {a0 a1 a2 a3 : Option Value} {b b2 : Option Value} {r : List (Option Value)} {x : Int64} (hd : decode mi.2.1 pc = .ok (.lstore 4, 2)) (hb : 5 < mi.2.2.1) (hp : aw_c1 a3 = true) (n : AW w P d mi k (pc + 2) (a0 :: a1 :: a2 :: a3 :: some (.long x) :: none :: r) st h) : AW w P d mi k pc (a0 :: a1 :: a2 :: a3 :: b :: b2 :: r) (.long x :: st) h := aw_lstore K hd hb (fun j o hj ho => by
  obtain rfl : j = 3 := by omega
  simp at ho
  subst ho
  exact hp) n
theorem aw_al4 (K : AOK w mi k) {a0 a1 a2 a3 : Option Value} {r : List (Option Value)} {x : Nat} (hd : decode mi.2.1 pc = .ok (.aload 4, 2)) (n : AW w P d mi k (pc + 2) (a0 :: a1 :: a2 :: a3 :: some (.ref x) :: r) (.ref x :: st) h) : AW w P d mi k pc (a0 :: a1 :: a2 :: a3 :: some (.ref x) :: r) st h := aw_aload K hd rfl n
theorem aw_as4 (K : AOK w mi k) {a0 a1 a2 a3 : Option Value} {b : Option Value} {r : List (Option Value)} {x : Nat} (hd : decode mi.2.1 pc = .ok (.astore 4, 2)) (hb : 4 < mi.2.2.1) (hp : aw_c1 a3 = true) (n : AW w P d mi k (pc + 2) (a0 :: a1 :: a2 :: a3 :: some (.ref x) :: r) st h) : AW w P d mi k pc (a0 :: a1 :: a2 :: a3 :: b :: r) (.ref x :: st) h := aw_astore K hd hb (fun j o hj ho => by
  obtain rfl : j = 3 := by omega
  simp at ho
  subst ho
  exact hp) n
theorem aw_ii4 (K : AOK w mi k) {a0 a1 a2 a3 : Option Value} {r : List (Option Value)} {x v : Int32} {n0 : Int} (hd : decode mi.2.1 pc = .ok (.iinc 4 n0, 3)) (hv : x + Int32.ofInt n0 = v) (hb : 4 < mi.2.2.1) (hp : aw_c1 a3 = true) (n : AW w P d mi k (pc + 3) (a0 :: a1 :: a2 :: a3 :: some (.int v) :: r) st h) : AW w P d mi k pc (a0 :: a1 :: a2 :: a3 :: some (.int x) :: r) st h := aw_iinc K hd rfl hv hb (fun j o hj ho => by
  obtain rfl : j = 3 := by omega
  simp at ho
  subst ho
  exact hp) n
theorem aw_il5 (K : AOK w mi k) {a0 a1 a2 a3 a4 : Option Value} {r : List (Option Value)} {x : Int32} (hd : decode mi.2.1 pc = .ok (.iload 5, 2)) (n : AW w P d mi k (pc + 2) (a0 :: a1 :: a2 :: a3 :: a4 :: some (.int x) :: r) (.int x :: st) h) : AW w P d mi k pc (a0 :: a1 :: a2 :: a3 :: a4 :: some (.int x) :: r) st h := aw_iload K hd rfl n
theorem aw_is5 (K : AOK w mi k) {a0 a1 a2 a3 a4 : Option Value} {b : Option Value} {r : List (Option Value)} {x : Int32} (hd : decode mi.2.1 pc = .ok (.istore 5, 2)) (hb : 5 < mi.2.2.1) (hp : aw_c1 a4 = true) (n : AW w P d mi k (pc + 2) (a0 :: a1 :: a2 :: a3 :: a4 :: some (.int x) :: r) st h) : AW w P d mi k pc (a0 :: a1 :: a2 :: a3 :: a4 :: b :: r) (.int x :: st) h := aw_istore K hd hb (fun j o hj ho => by
  obtain rfl : j = 4 := by omega
  simp at ho
  subst ho
  exact hp) n
theorem aw_ll5 (K : AOK w mi k) {a0 a1 a2 a3 a4 : Option Value} {r : List (Option Value)} {x : Int64} (hd : decode mi.2.1 pc = .ok (.lload 5, 2)) (n : AW w P d mi k (pc + 2) (a0 :: a1 :: a2 :: a3 :: a4 :: some (.long x) :: r) (.long x :: st) h) : AW w P d mi k pc (a0 :: a1 :: a2 :: a3 :: a4 :: some (.long x) :: r) st h := aw_lload K hd rfl n
theorem aw_ls5 (K : AOK w mi k) {a0 a1 a2 a3 a4 : Option Value} {b b2 : Option Value} {r : List (Option Value)} {x : Int64} (hd : decode mi.2.1 pc = .ok (.lstore 5, 2)) (hb : 6 < mi.2.2.1) (hp : aw_c1 a4 = true) (n : AW w P d mi k (pc + 2) (a0 :: a1 :: a2 :: a3 :: a4 :: some (.long x) :: none :: r) st h) : AW w P d mi k pc (a0 :: a1 :: a2 :: a3 :: a4 :: b :: b2 :: r) (.long x :: st) h := aw_lstore K hd hb (fun j o hj ho => by
  obtain rfl : j = 4 := by omega
  simp at ho
  subst ho
  exact hp) n
theorem aw_al5 (K : AOK w mi k) {a0 a1 a2 a3 a4 : Option Value} {r : List (Option Value)} {x : Nat} (hd : decode mi.2.1 pc = .ok (.aload 5, 2)) (n : AW w P d mi k (pc + 2) (a0 :: a1 :: a2 :: a3 :: a4 :: some (.ref x) :: r) (.ref x :: st) h) : AW w P d mi k pc (a0 :: a1 :: a2 :: a3 :: a4 :: some (.ref x) :: r) st h := aw_aload K hd rfl n
theorem aw_as5 (K : AOK w mi k) {a0 a1 a2 a3 a4 : Option Value} {b : Option Value} {r : List (Option Value)} {x : Nat} (hd : decode mi.2.1 pc = .ok (.astore 5, 2)) (hb : 5 < mi.2.2.1) (hp : aw_c1 a4 = true) (n : AW w P d mi k (pc + 2) (a0 :: a1 :: a2 :: a3 :: a4 :: some (.ref x) :: r) st h) : AW w P d mi k pc (a0 :: a1 :: a2 :: a3 :: a4 :: b :: r) (.ref x :: st) h := aw_astore K hd hb (fun j o hj ho => by
  obtain rfl : j = 4 := by omega
  simp at ho
  subst ho
  exact hp) n
theorem aw_ii5 (K : AOK w mi k) {a0 a1 a2 a3 a4 : Option Value} {r : List (Option Value)} {x v : Int32} {n0 : Int} (hd : decode mi.2.1 pc = .ok (.iinc 5 n0, 3)) (hv : x + Int32.ofInt n0 = v) (hb : 5 < mi.2.2.1) (hp : aw_c1 a4 = true) (n : AW w P d mi k (pc + 3) (a0 :: a1 :: a2 :: a3 :: a4 :: some (.int v) :: r) st h) : AW w P d mi k pc (a0 :: a1 :: a2 :: a3 :: a4 :: some (.int x) :: r) st h := aw_iinc K hd rfl hv hb (fun j o hj ho => by
  obtain rfl : j = 4 := by omega
  simp at ho
  subst ho
  exact hp) n
theorem aw_il6 (K : AOK w mi k) {a0 a1 a2 a3 a4 a5 : Option Value} {r : List (Option Value)} {x : Int32} (hd : decode mi.2.1 pc = .ok (.iload 6, 2)) (n : AW w P d mi k (pc + 2) (a0 :: a1 :: a2 :: a3 :: a4 :: a5 :: some (.int x) :: r) (.int x :: st) h) : AW w P d mi k pc (a0 :: a1 :: a2 :: a3 :: a4 :: a5 :: some (.int x) :: r) st h := aw_iload K hd rfl n
theorem aw_is6 (K : AOK w mi k) {a0 a1 a2 a3 a4 a5 : Option Value} {b : Option Value} {r : List (Option Value)} {x : Int32} (hd : decode mi.2.1 pc = .ok (.istore 6, 2)) (hb : 6 < mi.2.2.1) (hp : aw_c1 a5 = true) (n : AW w P d mi k (pc + 2) (a0 :: a1 :: a2 :: a3 :: a4 :: a5 :: some (.int x) :: r) st h) : AW w P d mi k pc (a0 :: a1 :: a2 :: a3 :: a4 :: a5 :: b :: r) (.int x :: st) h := aw_istore K hd hb (fun j o hj ho => by
  obtain rfl : j = 5 := by omega
  simp at ho
  subst ho
  exact hp) n
theorem aw_ll6 (K : AOK w mi k) {a0 a1 a2 a3 a4 a5 : Option Value} {r : List (Option Value)} {x : Int64} (hd : decode mi.2.1 pc = .ok (.lload 6, 2)) (n : AW w P d mi k (pc + 2) (a0 :: a1 :: a2 :: a3 :: a4 :: a5 :: some (.long x) :: r) (.long x :: st) h) : AW w P d mi k pc (a0 :: a1 :: a2 :: a3 :: a4 :: a5 :: some (.long x) :: r) st h := aw_lload K hd rfl n
theorem aw_ls6 (K : AOK w mi k) {a0 a1 a2 a3 a4 a5 : Option Value} {b b2 : Option Value} {r : List (Option Value)} {x : Int64} (hd : decode mi.2.1 pc = .ok (.lstore 6, 2)) (hb : 7 < mi.2.2.1) (hp : aw_c1 a5 = true) (n : AW w P d mi k (pc + 2) (a0 :: a1 :: a2 :: a3 :: a4 :: a5 :: some (.long x) :: none :: r) st h) : AW w P d mi k pc (a0 :: a1 :: a2 :: a3 :: a4 :: a5 :: b :: b2 :: r) (.long x :: st) h := aw_lstore K hd hb (fun j o hj ho => by
  obtain rfl : j = 5 := by omega
  simp at ho
  subst ho
  exact hp) n
theorem aw_al6 (K : AOK w mi k) {a0 a1 a2 a3 a4 a5 : Option Value} {r : List (Option Value)} {x : Nat} (hd : decode mi.2.1 pc = .ok (.aload 6, 2)) (n : AW w P d mi k (pc + 2) (a0 :: a1 :: a2 :: a3 :: a4 :: a5 :: some (.ref x) :: r) (.ref x :: st) h) : AW w P d mi k pc (a0 :: a1 :: a2 :: a3 :: a4 :: a5 :: some (.ref x) :: r) st h := aw_aload K hd rfl n
theorem aw_as6 (K : AOK w mi k) {a0 a1 a2 a3 a4 a5 : Option Value} {b : Option Value} {r : List (Option Value)} {x : Nat} (hd : decode mi.2.1 pc = .ok (.astore 6, 2)) (hb : 6 < mi.2.2.1) (hp : aw_c1 a5 = true) (n : AW w P d mi k (pc + 2) (a0 :: a1 :: a2 :: a3 :: a4 :: a5 :: some (.ref x) :: r) st h) : AW w P d mi k pc (a0 :: a1 :: a2 :: a3 :: a4 :: a5 :: b :: r) (.ref x :: st) h := aw_astore K hd hb (fun j o hj ho => by
  obtain rfl : j = 5 := by omega
  simp at ho
  subst ho
  exact hp) n
theorem aw_ii6 (K : AOK w mi k) {a0 a1 a2 a3 a4 a5 : Option Value} {r : List (Option Value)} {x v : Int32} {n0 : Int} (hd : decode mi.2.1 pc = .ok (.iinc 6 n0, 3)) (hv : x + Int32.ofInt n0 = v) (hb : 6 < mi.2.2.1) (hp : aw_c1 a5 = true) (n : AW w P d mi k (pc + 3) (a0 :: a1 :: a2 :: a3 :: a4 :: a5 :: some (.int v) :: r) st h) : AW w P d mi k pc (a0 :: a1 :: a2 :: a3 :: a4 :: a5 :: some (.int x) :: r) st h := aw_iinc K hd rfl hv hb (fun j o hj ho => by
  obtain rfl : j = 5 := by omega
  simp at ho
  subst ho
  exact hp) n
theorem aw_il7 (K : AOK w mi k) {a0 a1 a2 a3 a4 a5 a6 : Option Value} {r : List (Option Value)} {x : Int32} (hd : decode mi.2.1 pc = .ok (.iload 7, 2)) (n : AW w P d mi k (pc + 2) (a0 :: a1 :: a2 :: a3 :: a4 :: a5 :: a6 :: some (.int x) :: r) (.int x :: st) h) : AW w P d mi k pc (a0 :: a1 :: a2 :: a3 :: a4 :: a5 :: a6 :: some (.int x) :: r) st h := aw_iload K hd rfl n
theorem aw_is7 (K : AOK w mi k) {a0 a1 a2 a3 a4 a5 a6 : Option Value} {b : Option Value} {r : List (Option Value)} {x : Int32} (hd : decode mi.2.1 pc = .ok (.istore 7, 2)) (hb : 7 < mi.2.2.1) (hp : aw_c1 a6 = true) (n : AW w P d mi k (pc + 2) (a0 :: a1 :: a2 :: a3 :: a4 :: a5 :: a6 :: some (.int x) :: r) st h) : AW w P d mi k pc (a0 :: a1 :: a2 :: a3 :: a4 :: a5 :: a6 :: b :: r) (.int x :: st) h := aw_istore K hd hb (fun j o hj ho => by
  obtain rfl : j = 6 := by omega
  simp at ho
  subst ho
  exact hp) n
theorem aw_ll7 (K : AOK w mi k) {a0 a1 a2 a3 a4 a5 a6 : Option Value} {r : List (Option Value)} {x : Int64} (hd : decode mi.2.1 pc = .ok (.lload 7, 2)) (n : AW w P d mi k (pc + 2) (a0 :: a1 :: a2 :: a3 :: a4 :: a5 :: a6 :: some (.long x) :: r) (.long x :: st) h) : AW w P d mi k pc (a0 :: a1 :: a2 :: a3 :: a4 :: a5 :: a6 :: some (.long x) :: r) st h := aw_lload K hd rfl n
theorem aw_ls7 (K : AOK w mi k) {a0 a1 a2 a3 a4 a5 a6 : Option Value} {b b2 : Option Value} {r : List (Option Value)} {x : Int64} (hd : decode mi.2.1 pc = .ok (.lstore 7, 2)) (hb : 8 < mi.2.2.1) (hp : aw_c1 a6 = true) (n : AW w P d mi k (pc + 2) (a0 :: a1 :: a2 :: a3 :: a4 :: a5 :: a6 :: some (.long x) :: none :: r) st h) : AW w P d mi k pc (a0 :: a1 :: a2 :: a3 :: a4 :: a5 :: a6 :: b :: b2 :: r) (.long x :: st) h := aw_lstore K hd hb (fun j o hj ho => by
  obtain rfl : j = 6 := by omega
  simp at ho
  subst ho
  exact hp) n
theorem aw_al7 (K : AOK w mi k) {a0 a1 a2 a3 a4 a5 a6 : Option Value} {r : List (Option Value)} {x : Nat} (hd : decode mi.2.1 pc = .ok (.aload 7, 2)) (n : AW w P d mi k (pc + 2) (a0 :: a1 :: a2 :: a3 :: a4 :: a5 :: a6 :: some (.ref x) :: r) (.ref x :: st) h) : AW w P d mi k pc (a0 :: a1 :: a2 :: a3 :: a4 :: a5 :: a6 :: some (.ref x) :: r) st h := aw_aload K hd rfl n
theorem aw_as7 (K : AOK w mi k) {a0 a1 a2 a3 a4 a5 a6 : Option Value} {b : Option Value} {r : List (Option Value)} {x : Nat} (hd : decode mi.2.1 pc = .ok (.astore 7, 2)) (hb : 7 < mi.2.2.1) (hp : aw_c1 a6 = true) (n : AW w P d mi k (pc + 2) (a0 :: a1 :: a2 :: a3 :: a4 :: a5 :: a6 :: some (.ref x) :: r) st h) : AW w P d mi k pc (a0 :: a1 :: a2 :: a3 :: a4 :: a5 :: a6 :: b :: r) (.ref x :: st) h := aw_astore K hd hb (fun j o hj ho => by
  obtain rfl : j = 6 := by omega
  simp at ho
  subst ho
  exact hp) n
theorem aw_ii7 (K : AOK w mi k) {a0 a1 a2 a3 a4 a5 a6 : Option Value} {r : List (Option Value)} {x v : Int32} {n0 : Int} (hd : decode mi.2.1 pc = .ok (.iinc 7 n0, 3)) (hv : x + Int32.ofInt n0 = v) (hb : 7 < mi.2.2.1) (hp : aw_c1 a6 = true) (n : AW w P d mi k (pc + 3) (a0 :: a1 :: a2 :: a3 :: a4 :: a5 :: a6 :: some (.int v) :: r) st h) : AW w P d mi k pc (a0 :: a1 :: a2 :: a3 :: a4 :: a5 :: a6 :: some (.int x) :: r) st h := aw_iinc K hd rfl hv hb (fun j o hj ho => by
  obtain rfl : j = 6 := by omega
  simp at ho
  subst ho
  exact hp) n
theorem aw_il8 (K : AOK w mi k) {a0 a1 a2 a3 a4 a5 a6 a7 : Option Value} {r : List (Option Value)} {x : Int32} (hd : decode mi.2.1 pc = .ok (.iload 8, 2)) (n : AW w P d mi k (pc + 2) (a0 :: a1 :: a2 :: a3 :: a4 :: a5 :: a6 :: a7 :: some (.int x) :: r) (.int x :: st) h) : AW w P d mi k pc (a0 :: a1 :: a2 :: a3 :: a4 :: a5 :: a6 :: a7 :: some (.int x) :: r) st h := aw_iload K hd rfl n
theorem aw_is8 (K : AOK w mi k) {a0 a1 a2 a3 a4 a5 a6 a7 : Option Value} {b : Option Value} {r : List (Option Value)} {x : Int32} (hd : decode mi.2.1 pc = .ok (.istore 8, 2)) (hb : 8 < mi.2.2.1) (hp : aw_c1 a7 = true) (n : AW w P d mi k (pc + 2) (a0 :: a1 :: a2 :: a3 :: a4 :: a5 :: a6 :: a7 :: some (.int x) :: r) st h) : AW w P d mi k pc (a0 :: a1 :: a2 :: a3 :: a4 :: a5 :: a6 :: a7 :: b :: r) (.int x :: st) h := aw_istore K hd hb (fun j o hj ho => by
  obtain rfl : j = 7 := by omega
  simp at ho
  subst ho
  exact hp) n
theorem aw_ll8 (K : AOK w mi k) {a0 a1 a2 a3 a4 a5 a6 a7 : Option Value} {r : List (Option Value)} {x : Int64} (hd : decode mi.2.1 pc = .ok (.lload 8, 2)) (n : AW w P d mi k (pc + 2) (a0 :: a1 :: a2 :: a3 :: a4 :: a5 :: a6 :: a7 :: some (.long x) :: r) (.long x :: st) h) : AW w P d mi k pc (a0 :: a1 :: a2 :: a3 :: a4 :: a5 :: a6 :: a7 :: some (.long x) :: r) st h := aw_lload K hd rfl n
theorem aw_ls8 (K : AOK w mi k) {a0 a1 a2 a3 a4 a5 a6 a7 : Option Value} {b b2 : Option Value} {r : List (Option Value)} {x : Int64} (hd : decode mi.2.1 pc = .ok (.lstore 8, 2)) (hb : 9 < mi.2.2.1) (hp : aw_c1 a7 = true) (n : AW w P d mi k (pc + 2) (a0 :: a1 :: a2 :: a3 :: a4 :: a5 :: a6 :: a7 :: some (.long x) :: none :: r) st h) : AW w P d mi k pc (a0 :: a1 :: a2 :: a3 :: a4 :: a5 :: a6 :: a7 :: b :: b2 :: r) (.long x :: st) h := aw_lstore K hd hb (fun j o hj ho => by
  obtain rfl : j = 7 := by omega
  simp at ho
  subst ho
  exact hp) n
theorem aw_al8 (K : AOK w mi k) {a0 a1 a2 a3 a4 a5 a6 a7 : Option Value} {r : List (Option Value)} {x : Nat} (hd : decode mi.2.1 pc = .ok (.aload 8, 2)) (n : AW w P d mi k (pc + 2) (a0 :: a1 :: a2 :: a3 :: a4 :: a5 :: a6 :: a7 :: some (.ref x) :: r) (.ref x :: st) h) : AW w P d mi k pc (a0 :: a1 :: a2 :: a3 :: a4 :: a5 :: a6 :: a7 :: some (.ref x) :: r) st h := aw_aload K hd rfl n
theorem aw_as8 (K : AOK w mi k) {a0 a1 a2 a3 a4 a5 a6 a7 : Option Value} {b : Option Value} {r : List (Option Value)} {x : Nat} (hd : decode mi.2.1 pc = .ok (.astore 8, 2)) (hb : 8 < mi.2.2.1) (hp : aw_c1 a7 = true) (n : AW w P d mi k (pc + 2) (a0 :: a1 :: a2 :: a3 :: a4 :: a5 :: a6 :: a7 :: some (.ref x) :: r) st h) : AW w P d mi k pc (a0 :: a1 :: a2 :: a3 :: a4 :: a5 :: a6 :: a7 :: b :: r) (.ref x :: st) h := aw_astore K hd hb (fun j o hj ho => by
  obtain rfl : j = 7 := by omega
  simp at ho
  subst ho
  exact hp) n
theorem aw_ii8 (K : AOK w mi k) {a0 a1 a2 a3 a4 a5 a6 a7 : Option Value} {r : List (Option Value)} {x v : Int32} {n0 : Int} (hd : decode mi.2.1 pc = .ok (.iinc 8 n0, 3)) (hv : x + Int32.ofInt n0 = v) (hb : 8 < mi.2.2.1) (hp : aw_c1 a7 = true) (n : AW w P d mi k (pc + 3) (a0 :: a1 :: a2 :: a3 :: a4 :: a5 :: a6 :: a7 :: some (.int v) :: r) st h) : AW w P d mi k pc (a0 :: a1 :: a2 :: a3 :: a4 :: a5 :: a6 :: a7 :: some (.int x) :: r) st h := aw_iinc K hd rfl hv hb (fun j o hj ho => by
  obtain rfl : j = 7 := by omega
  simp at ho
  subst ho
  exact hp) n
theorem aw_il9 (K : AOK w mi k) {a0 a1 a2 a3 a4 a5 a6 a7 a8 : Option Value} {r : List (Option Value)} {x : Int32} (hd : decode mi.2.1 pc = .ok (.iload 9, 2)) (n : AW w P d mi k (pc + 2) (a0 :: a1 :: a2 :: a3 :: a4 :: a5 :: a6 :: a7 :: a8 :: some (.int x) :: r) (.int x :: st) h) : AW w P d mi k pc (a0 :: a1 :: a2 :: a3 :: a4 :: a5 :: a6 :: a7 :: a8 :: some (.int x) :: r) st h := aw_iload K hd rfl n
theorem aw_is9 (K : AOK w mi k) {a0 a1 a2 a3 a4 a5 a6 a7 a8 : Option Value} {b : Option Value} {r : List (Option Value)} {x : Int32} (hd : decode mi.2.1 pc = .ok (.istore 9, 2)) (hb : 9 < mi.2.2.1) (hp : aw_c1 a8 = true) (n : AW w P d mi k (pc + 2) (a0 :: a1 :: a2 :: a3 :: a4 :: a5 :: a6 :: a7 :: a8 :: some (.int x) :: r) st h) : AW w P d mi k pc (a0 :: a1 :: a2 :: a3 :: a4 :: a5 :: a6 :: a7 :: a8 :: b :: r) (.int x :: st) h := aw_istore K hd hb (fun j o hj ho => by
  obtain rfl : j = 8 := by omega
  simp at ho
  subst ho
  exact hp) n
theorem aw_ll9 (K : AOK w mi k) {a0 a1 a2 a3 a4 a5 a6 a7 a8 : Option Value} {r : List (Option Value)} {x : Int64} (hd : decode mi.2.1 pc = .ok (.lload 9, 2)) (n : AW w P d mi k (pc + 2) (a0 :: a1 :: a2 :: a3 :: a4 :: a5 :: a6 :: a7 :: a8 :: some (.long x) :: r) (.long x :: st) h) : AW w P d mi k pc (a0 :: a1 :: a2 :: a3 :: a4 :: a5 :: a6 :: a7 :: a8 :: some (.long x) :: r) st h := aw_lload K hd rfl n
theorem aw_ls9 (K : AOK w mi k) {a0 a1 a2 a3 a4 a5 a6 a7 a8 : Option Value} {b b2 : Option Value} {r : List (Option Value)} {x : Int64} (hd : decode mi.2.1 pc = .ok (.lstore 9, 2)) (hb : 10 < mi.2.2.1) (hp : aw_c1 a8 = true) (n : AW w P d mi k (pc + 2) (a0 :: a1 :: a2 :: a3 :: a4 :: a5 :: a6 :: a7 :: a8 :: some (.long x) :: none :: r) st h) : AW w P d mi k pc (a0 :: a1 :: a2 :: a3 :: a4 :: a5 :: a6 :: a7 :: a8 :: b :: b2 :: r) (.long x :: st) h := aw_lstore K hd hb (fun j o hj ho => by
  obtain rfl : j = 8 := by omega
  simp at ho
  subst ho
  exact hp) n
theorem aw_al9 (K : AOK w mi k) {a0 a1 a2 a3 a4 a5 a6 a7 a8 : Option Value} {r : List (Option Value)} {x : Nat} (hd : decode mi.2.1 pc = .ok (.aload 9, 2)) (n : AW w P d mi k (pc + 2) (a0 :: a1 :: a2 :: a3 :: a4 :: a5 :: a6 :: a7 :: a8 :: some (.ref x) :: r) (.ref x :: st) h) : AW w P d mi k pc (a0 :: a1 :: a2 :: a3 :: a4 :: a5 :: a6 :: a7 :: a8 :: some (.ref x) :: r) st h := aw_aload K hd rfl n
theorem aw_as9 (K : AOK w mi k) {a0 a1 a2 a3 a4 a5 a6 a7 a8 : Option Value} {b : Option Value} {r : List (Option Value)} {x : Nat} (hd : decode mi.2.1 pc = .ok (.astore 9, 2)) (hb : 9 < mi.2.2.1) (hp : aw_c1 a8 = true) (n : AW w P d mi k (pc + 2) (a0 :: a1 :: a2 :: a3 :: a4 :: a5 :: a6 :: a7 :: a8 :: some (.ref x) :: r) st h) : AW w P d mi k pc (a0 :: a1 :: a2 :: a3 :: a4 :: a5 :: a6 :: a7 :: a8 :: b :: r) (.ref x :: st) h := aw_astore K hd hb (fun j o hj ho => by
  obtain rfl : j = 8 := by omega
  simp at ho
  subst ho
  exact hp) n
theorem aw_ii9 (K : AOK w mi k) {a0 a1 a2 a3 a4 a5 a6 a7 a8 : Option Value} {r : List (Option Value)} {x v : Int32} {n0 : Int} (hd : decode mi.2.1 pc = .ok (.iinc 9 n0, 3)) (hv : x + Int32.ofInt n0 = v) (hb : 9 < mi.2.2.1) (hp : aw_c1 a8 = true) (n : AW w P d mi k (pc + 3) (a0 :: a1 :: a2 :: a3 :: a4 :: a5 :: a6 :: a7 :: a8 :: some (.int v) :: r) st h) : AW w P d mi k pc (a0 :: a1 :: a2 :: a3 :: a4 :: a5 :: a6 :: a7 :: a8 :: some (.int x) :: r) st h := aw_iinc K hd rfl hv hb (fun j o hj ho => by
  obtain rfl : j = 8 := by omega
  simp at ho
  subst ho
  exact hp) n
theorem aw_il10 (K : AOK w mi k) {a0 a1 a2 a3 a4 a5 a6 a7 a8 a9 : Option Value} {r : List (Option Value)} {x : Int32} (hd : decode mi.2.1 pc = .ok (.iload 10, 2)) (n : AW w P d mi k (pc + 2) (a0 :: a1 :: a2 :: a3 :: a4 :: a5 :: a6 :: a7 :: a8 :: a9 :: some (.int x) :: r) (.int x :: st) h) : AW w P d mi k pc (a0 :: a1 :: a2 :: a3 :: a4 :: a5 :: a6 :: a7 :: a8 :: a9 :: some (.int x) :: r) st h := aw_iload K hd rfl n
theorem aw_is10 (K : AOK w mi k) {a0 a1 a2 a3 a4 a5 a6 a7 a8 a9 : Option Value} {b : Option Value} {r : List (Option Value)} {x : Int32} (hd : decode mi.2.1 pc = .ok (.istore 10, 2)) (hb : 10 < mi.2.2.1) (hp : aw_c1 a9 = true) (n : AW w P d mi k (pc + 2) (a0 :: a1 :: a2 :: a3 :: a4 :: a5 :: a6 :: a7 :: a8 :: a9 :: some (.int x) :: r) st h) : AW w P d mi k pc (a0 :: a1 :: a2 :: a3 :: a4 :: a5 :: a6 :: a7 :: a8 :: a9 :: b :: r) (.int x :: st) h := aw_istore K hd hb (fun j o hj ho => by
  obtain rfl : j = 9 := by omega
  simp at ho
  subst ho
  exact hp) n
theorem aw_ll10 (K : AOK w mi k) {a0 a1 a2 a3 a4 a5 a6 a7 a8 a9 : Option Value} {r : List (Option Value)} {x : Int64} (hd : decode mi.2.1 pc = .ok (.lload 10, 2)) (n : AW w P d mi k (pc + 2) (a0 :: a1 :: a2 :: a3 :: a4 :: a5 :: a6 :: a7 :: a8 :: a9 :: some (.long x) :: r) (.long x :: st) h) : AW w P d mi k pc (a0 :: a1 :: a2 :: a3 :: a4 :: a5 :: a6 :: a7 :: a8 :: a9 :: some (.long x) :: r) st h := aw_lload K hd rfl n
theorem aw_ls10 (K : AOK w mi k) {a0 a1 a2 a3 a4 a5 a6 a7 a8 a9 : Option Value} {b b2 : Option Value} {r : List (Option Value)} {x : Int64} (hd : decode mi.2.1 pc = .ok (.lstore 10, 2)) (hb : 11 < mi.2.2.1) (hp : aw_c1 a9 = true) (n : AW w P d mi k (pc + 2) (a0 :: a1 :: a2 :: a3 :: a4 :: a5 :: a6 :: a7 :: a8 :: a9 :: some (.long x) :: none :: r) st h) : AW w P d mi k pc (a0 :: a1 :: a2 :: a3 :: a4 :: a5 :: a6 :: a7 :: a8 :: a9 :: b :: b2 :: r) (.long x :: st) h := aw_lstore K hd hb (fun j o hj ho => by
  obtain rfl : j = 9 := by omega
  simp at ho
  subst ho
  exact hp) n
theorem aw_al10 (K : AOK w mi k) {a0 a1 a2 a3 a4 a5 a6 a7 a8 a9 : Option Value} {r : List (Option Value)} {x : Nat} (hd : decode mi.2.1 pc = .ok (.aload 10, 2)) (n : AW w P d mi k (pc + 2) (a0 :: a1 :: a2 :: a3 :: a4 :: a5 :: a6 :: a7 :: a8 :: a9 :: some (.ref x) :: r) (.ref x :: st) h) : AW w P d mi k pc (a0 :: a1 :: a2 :: a3 :: a4 :: a5 :: a6 :: a7 :: a8 :: a9 :: some (.ref x) :: r) st h := aw_aload K hd rfl n
theorem aw_as10 (K : AOK w mi k) {a0 a1 a2 a3 a4 a5 a6 a7 a8 a9 : Option Value} {b : Option Value} {r : List (Option Value)} {x : Nat} (hd : decode mi.2.1 pc = .ok (.astore 10, 2)) (hb : 10 < mi.2.2.1) (hp : aw_c1 a9 = true) (n : AW w P d mi k (pc + 2) (a0 :: a1 :: a2 :: a3 :: a4 :: a5 :: a6 :: a7 :: a8 :: a9 :: some (.ref x) :: r) st h) : AW w P d mi k pc (a0 :: a1 :: a2 :: a3 :: a4 :: a5 :: a6 :: a7 :: a8 :: a9 :: b :: r) (.ref x :: st) h := aw_astore K hd hb (fun j o hj ho => by
  obtain rfl : j = 9 := by omega
  simp at ho
  subst ho
  exact hp) n
theorem aw_ii10 (K : AOK w mi k) {a0 a1 a2 a3 a4 a5 a6 a7 a8 a9 : Option Value} {r : List (Option Value)} {x v : Int32} {n0 : Int} (hd : decode mi.2.1 pc = .ok (.iinc 10 n0, 3)) (hv : x + Int32.ofInt n0 = v) (hb : 10 < mi.2.2.1) (hp : aw_c1 a9 = true) (n : AW w P d mi k (pc + 3) (a0 :: a1 :: a2 :: a3 :: a4 :: a5 :: a6 :: a7 :: a8 :: a9 :: some (.int v) :: r) st h) : AW w P d mi k pc (a0 :: a1 :: a2 :: a3 :: a4 :: a5 :: a6 :: a7 :: a8 :: a9 :: some (.int x) :: r) st h := aw_iinc K hd rfl hv hb (fun j o hj ho => by
  obtain rfl : j = 9 := by omega
  simp at ho
  subst ho
  exact hp) n
theorem aw_il11 (K : AOK w mi k) {a0 a1 a2 a3 a4 a5 a6 a7 a8 a9 a10 : Option Value} {r : List (Option Value)} {x : Int32} (hd : decode mi.2.1 pc = .ok (.iload 11, 2)) (n : AW w P d mi k (pc + 2) (a0 :: a1 :: a2 :: a3 :: a4 :: a5 :: a6 :: a7 :: a8 :: a9 :: a10 :: some (.int x) :: r) (.int x :: st) h) : AW w P d mi k pc (a0 :: a1 :: a2 :: a3 :: a4 :: a5 :: a6 :: a7 :: a8 :: a9 :: a10 :: some (.int x) :: r) st h := aw_iload K hd rfl n
theorem aw_is11 (K : AOK w mi k) {a0 a1 a2 a3 a4 a5 a6 a7 a8 a9 a10 : Option Value} {b : Option Value} {r : List (Option Value)} {x : Int32} (hd : decode mi.2.1 pc = .ok (.istore 11, 2)) (hb : 11 < mi.2.2.1) (hp : aw_c1 a10 = true) (n : AW w P d mi k (pc + 2) (a0 :: a1 :: a2 :: a3 :: a4 :: a5 :: a6 :: a7 :: a8 :: a9 :: a10 :: some (.int x) :: r) st h) : AW w P d mi k pc (a0 :: a1 :: a2 :: a3 :: a4 :: a5 :: a6 :: a7 :: a8 :: a9 :: a10 :: b :: r) (.int x :: st) h := aw_istore K hd hb (fun j o hj ho => by
  obtain rfl : j = 10 := by omega
  simp at ho
  subst ho
  exact hp) n
theorem aw_ll11 (K : AOK w mi k) {a0 a1 a2 a3 a4 a5 a6 a7 a8 a9 a10 : Option Value} {r : List (Option Value)} {x : Int64} (hd : decode mi.2.1 pc = .ok (.lload 11, 2)) (n : AW w P d mi k (pc + 2) (a0 :: a1 :: a2 :: a3 :: a4 :: a5 :: a6 :: a7 :: a8 :: a9 :: a10 :: some (.long x) :: r) (.long x :: st) h) : AW w P d mi k pc (a0 :: a1 :: a2 :: a3 :: a4 :: a5 :: a6 :: a7 :: a8 :: a9 :: a10 :: some (.long x) :: r) st h := aw_lload K hd rfl n
theorem aw_ls11 (K : AOK w mi k) {a0 a1 a2 a3 a4 a5 a6 a7 a8 a9 a10 : Option Value} {b b2 : Option Value} {r : List (Option Value)} {x : Int64} (hd : decode mi.2.1 pc = .ok (.lstore 11, 2)) (hb : 12 < mi.2.2.1) (hp : aw_c1 a10 = true) (n : AW w P d mi k (pc + 2) (a0 :: a1 :: a2 :: a3 :: a4 :: a5 :: a6 :: a7 :: a8 :: a9 :: a10 :: some (.long x) :: none :: r) st h) : AW w P d mi k pc (a0 :: a1 :: a2 :: a3 :: a4 :: a5 :: a6 :: a7 :: a8 :: a9 :: a10 :: b :: b2 :: r) (.long x :: st) h := aw_lstore K hd hb (fun j o hj ho => by
  obtain rfl : j = 10 := by omega
  simp at ho
  subst ho
  exact hp) n
theorem aw_al11 (K : AOK w mi k) {a0 a1 a2 a3 a4 a5 a6 a7 a8 a9 a10 : Option Value} {r : List (Option Value)} {x : Nat} (hd : decode mi.2.1 pc = .ok (.aload 11, 2)) (n : AW w P d mi k (pc + 2) (a0 :: a1 :: a2 :: a3 :: a4 :: a5 :: a6 :: a7 :: a8 :: a9 :: a10 :: some (.ref x) :: r) (.ref x :: st) h) : AW w P d mi k pc (a0 :: a1 :: a2 :: a3 :: a4 :: a5 :: a6 :: a7 :: a8 :: a9 :: a10 :: some (.ref x) :: r) st h := aw_aload K hd rfl n
theorem aw_as11 (K : AOK w mi k) {a0 a1 a2 a3 a4 a5 a6 a7 a8 a9 a10 : Option Value} {b : Option Value} {r : List (Option Value)} {x : Nat} (hd : decode mi.2.1 pc = .ok (.astore 11, 2)) (hb : 11 < mi.2.2.1) (hp : aw_c1 a10 = true) (n : AW w P d mi k (pc + 2) (a0 :: a1 :: a2 :: a3 :: a4 :: a5 :: a6 :: a7 :: a8 :: a9 :: a10 :: some (.ref x) :: r) st h) : AW w P d mi k pc (a0 :: a1 :: a2 :: a3 :: a4 :: a5 :: a6 :: a7 :: a8 :: a9 :: a10 :: b :: r) (.ref x :: st) h := aw_astore K hd hb (fun j o hj ho => by
  obtain rfl : j = 10 := by omega
  simp at ho
  subst ho
  exact hp) n
theorem aw_ii11 (K : AOK w mi k) {a0 a1 a2 a3 a4 a5 a6 a7 a8 a9 a10 : Option Value} {r : List (Option Value)} {x v : Int32} {n0 : Int} (hd : decode mi.2.1 pc = .ok (.iinc 11 n0, 3)) (hv : x + Int32.ofInt n0 = v) (hb : 11 < mi.2.2.1) (hp : aw_c1 a10 = true) (n : AW w P d mi k (pc + 3) (a0 :: a1 :: a2 :: a3 :: a4 :: a5 :: a6 :: a7 :: a8 :: a9 :: a10 :: some (.int v) :: r) st h) : AW w P d mi k pc (a0 :: a1 :: a2 :: a3 :: a4 :: a5 :: a6 :: a7 :: a8 :: a9 :: a10 :: some (.int x) :: r) st h := aw_iinc K hd rfl hv hb (fun j o hj ho => by
  obtain rfl : j = 10 := by omega
  simp at ho
  subst ho
  exact hp) n
theorem aw_il12 (K : AOK w mi k) {a0 a1 a2 a3 a4 a5 a6 a7 a8 a9 a10 a11 : Option Value} {r : List (Option Value)} {x : Int32} (hd : decode mi.2.1 pc = .ok (.iload 12, 2)) (n : AW w P d mi k (pc + 2) (a0 :: a1 :: a2 :: a3 :: a4 :: a5 :: a6 :: a7 :: a8 :: a9 :: a10 :: a11 :: some (.int x) :: r) (.int x :: st) h) : AW w P d mi k pc (a0 :: a1 :: a2 :: a3 :: a4 :: a5 :: a6 :: a7 :: a8 :: a9 :: a10 :: a11 :: some (.int x) :: r) st h := aw_iload K hd rfl n
theorem aw_is12 (K : AOK w mi k) {a0 a1 a2 a3 a4 a5 a6 a7 a8 a9 a10 a11 : Option Value} {b : Option Value} {r : List (Option Value)} {x : Int32} (hd : decode mi.2.1 pc = .ok (.istore 12, 2)) (hb : 12 < mi.2.2.1) (hp : aw_c1 a11 = true) (n : AW w P d mi k (pc + 2) (a0 :: a1 :: a2 :: a3 :: a4 :: a5 :: a6 :: a7 :: a8 :: a9 :: a10 :: a11 :: some (.int x) :: r) st h) : AW w P d mi k pc (a0 :: a1 :: a2 :: a3 :: a4 :: a5 :: a6 :: a7 :: a8 :: a9 :: a10 :: a11 :: b :: r) (.int x :: st) h := aw_istore K hd hb (fun j o hj ho => by
  obtain rfl : j = 11 := by omega
  simp at ho
  subst ho
  exact hp) n
theorem aw_ll12 (K : AOK w mi k) {a0 a1 a2 a3 a4 a5 a6 a7 a8 a9 a10 a11 : Option Value} {r : List (Option Value)} {x : Int64} (hd : decode mi.2.1 pc = .ok (.lload 12, 2)) (n : AW w P d mi k (pc + 2) (a0 :: a1 :: a2 :: a3 :: a4 :: a5 :: a6 :: a7 :: a8 :: a9 :: a10 :: a11 :: some (.long x) :: r) (.long x :: st) h) : AW w P d mi k pc (a0 :: a1 :: a2 :: a3 :: a4 :: a5 :: a6 :: a7 :: a8 :: a9 :: a10 :: a11 :: some (.long x) :: r) st h := aw_lload K hd rfl n
theorem aw_ls12 (K : AOK w mi k) {a0 a1 a2 a3 a4 a5 a6 a7 a8 a9 a10 a11 : Option Value} {b b2 : Option Value} {r : List (Option Value)} {x : Int64} (hd : decode mi.2.1 pc = .ok (.lstore 12, 2)) (hb : 13 < mi.2.2.1) (hp : aw_c1 a11 = true) (n : AW w P d mi k (pc + 2) (a0 :: a1 :: a2 :: a3 :: a4 :: a5 :: a6 :: a7 :: a8 :: a9 :: a10 :: a11 :: some (.long x) :: none :: r) st h) : AW w P d mi k pc (a0 :: a1 :: a2 :: a3 :: a4 :: a5 :: a6 :: a7 :: a8 :: a9 :: a10 :: a11 :: b :: b2 :: r) (.long x :: st) h := aw_lstore K hd hb (fun j o hj ho => by
  obtain rfl : j = 11 := by omega
  simp at ho
  subst ho
  exact hp) n
theorem aw_al12 (K : AOK w mi k) {a0 a1 a2 a3 a4 a5 a6 a7 a8 a9 a10 a11 : Option Value} {r : List (Option Value)} {x : Nat} (hd : decode mi.2.1 pc = .ok (.aload 12, 2)) (n : AW w P d mi k (pc + 2) (a0 :: a1 :: a2 :: a3 :: a4 :: a5 :: a6 :: a7 :: a8 :: a9 :: a10 :: a11 :: some (.ref x) :: r) (.ref x :: st) h) : AW w P d mi k pc (a0 :: a1 :: a2 :: a3 :: a4 :: a5 :: a6 :: a7 :: a8 :: a9 :: a10 :: a11 :: some (.ref x) :: r) st h := aw_aload K hd rfl n
theorem aw_as12 (K : AOK w mi k) {a0 a1 a2 a3 a4 a5 a6 a7 a8 a9 a10 a11 : Option Value} {b : Option Value} {r : List (Option Value)} {x : Nat} (hd : decode mi.2.1 pc = .ok (.astore 12, 2)) (hb : 12 < mi.2.2.1) (hp : aw_c1 a11 = true) (n : AW w P d mi k (pc + 2) (a0 :: a1 :: a2 :: a3 :: a4 :: a5 :: a6 :: a7 :: a8 :: a9 :: a10 :: a11 :: some (.ref x) :: r) st h) : AW w P d mi k pc (a0 :: a1 :: a2 :: a3 :: a4 :: a5 :: a6 :: a7 :: a8 :: a9 :: a10 :: a11 :: b :: r) (.ref x :: st) h := aw_astore K hd hb (fun j o hj ho => by
  obtain rfl : j = 11 := by omega
  simp at ho
  subst ho
  exact hp) n
theorem aw_ii12 (K : AOK w mi k) {a0 a1 a2 a3 a4 a5 a6 a7 a8 a9 a10 a11 : Option Value} {r : List (Option Value)} {x v : Int32} {n0 : Int} (hd : decode mi.2.1 pc = .ok (.iinc 12 n0, 3)) (hv : x + Int32.ofInt n0 = v) (hb : 12 < mi.2.2.1) (hp : aw_c1 a11 = true) (n : AW w P d mi k (pc + 3) (a0 :: a1 :: a2 :: a3 :: a4 :: a5 :: a6 :: a7 :: a8 :: a9 :: a10 :: a11 :: some (.int v) :: r) st h) : AW w P d mi k pc (a0 :: a1 :: a2 :: a3 :: a4 :: a5 :: a6 :: a7 :: a8 :: a9 :: a10 :: a11 :: some (.int x) :: r) st h := aw_iinc K hd rfl hv hb (fun j o hj ho => by
  obtain rfl : j = 11 := by omega
  simp at ho
  subst ho
  exact hp) n
theorem aw_il13 (K : AOK w mi k) {a0 a1 a2 a3 a4 a5 a6 a7 a8 a9 a10 a11 a12 : Option Value} {r : List (Option Value)} {x : Int32} (hd : decode mi.2.1 pc = .ok (.iload 13, 2)) (n : AW w P d mi k (pc + 2) (a0 :: a1 :: a2 :: a3 :: a4 :: a5 :: a6 :: a7 :: a8 :: a9 :: a10 :: a11 :: a12 :: some (.int x) :: r) (.int x :: st) h) : AW w P d mi k pc (a0 :: a1 :: a2 :: a3 :: a4 :: a5 :: a6 :: a7 :: a8 :: a9 :: a10 :: a11 :: a12 :: some (.int x) :: r) st h := aw_iload K hd rfl n
theorem aw_is13 (K : AOK w mi k) {a0 a1 a2 a3 a4 a5 a6 a7 a8 a9 a10 a11 a12 : Option Value} {b : Option Value} {r : List (Option Value)} {x : Int32} (hd : decode mi.2.1 pc = .ok (.istore 13, 2)) (hb : 13 < mi.2.2.1) (hp : aw_c1 a12 = true) (n : AW w P d mi k (pc + 2) (a0 :: a1 :: a2 :: a3 :: a4 :: a5 :: a6 :: a7 :: a8 :: a9 :: a10 :: a11 :: a12 :: some (.int x) :: r) st h) : AW w P d mi k pc (a0 :: a1 :: a2 :: a3 :: a4 :: a5 :: a6 :: a7 :: a8 :: a9 :: a10 :: a11 :: a12 :: b :: r) (.int x :: st) h := aw_istore K hd hb (fun j o hj ho => by
  obtain rfl : j = 12 := by omega
  simp at ho
  subst ho
  exact hp) n
theorem aw_ll13 (K : AOK w mi k) {a0 a1 a2 a3 a4 a5 a6 a7 a8 a9 a10 a11 a12 : Option Value} {r : List (Option Value)} {x : Int64} (hd : decode mi.2.1 pc = .ok (.lload 13, 2)) (n : AW w P d mi k (pc + 2) (a0 :: a1 :: a2 :: a3 :: a4 :: a5 :: a6 :: a7 :: a8 :: a9 :: a10 :: a11 :: a12 :: some (.long x) :: r) (.long x :: st) h) : AW w P d mi k pc (a0 :: a1 :: a2 :: a3 :: a4 :: a5 :: a6 :: a7 :: a8 :: a9 :: a10 :: a11 :: a12 :: some (.long x) :: r) st h := aw_lload K hd rfl n
theorem aw_ls13 (K : AOK w mi k) {a0 a1 a2 a3 a4 a5 a6 a7 a8 a9 a10 a11 a12 : Option Value} {b b2 : Option Value} {r : List (Option Value)} {x : Int64} (hd : decode mi.2.1 pc = .ok (.lstore 13, 2)) (hb : 14 < mi.2.2.1) (hp : aw_c1 a12 = true) (n : AW w P d mi k (pc + 2) (a0 :: a1 :: a2 :: a3 :: a4 :: a5 :: a6 :: a7 :: a8 :: a9 :: a10 :: a11 :: a12 :: some (.long x) :: none :: r) st h) : AW w P d mi k pc (a0 :: a1 :: a2 :: a3 :: a4 :: a5 :: a6 :: a7 :: a8 :: a9 :: a10 :: a11 :: a12 :: b :: b2 :: r) (.long x :: st) h := aw_lstore K hd hb (fun j o hj ho => by
  obtain rfl : j = 12 := by omega
  simp at ho
  subst ho
  exact hp) n
theorem aw_al13 (K : AOK w mi k) {a0 a1 a2 a3 a4 a5 a6 a7 a8 a9 a10 a11 a12 : Option Value} {r : List (Option Value)} {x : Nat} (hd : decode mi.2.1 pc = .ok (.aload 13, 2)) (n : AW w P d mi k (pc + 2) (a0 :: a1 :: a2 :: a3 :: a4 :: a5 :: a6 :: a7 :: a8 :: a9 :: a10 :: a11 :: a12 :: some (.ref x) :: r) (.ref x :: st) h) : AW w P d mi k pc (a0 :: a1 :: a2 :: a3 :: a4 :: a5 :: a6 :: a7 :: a8 :: a9 :: a10 :: a11 :: a12 :: some (.ref x) :: r) st h := aw_aload K hd rfl n
theorem aw_as13 (K : AOK w mi k) {a0 a1 a2 a3 a4 a5 a6 a7 a8 a9 a10 a11 a12 : Option Value} {b : Option Value} {r : List (Option Value)} {x : Nat} (hd : decode mi.2.1 pc = .ok (.astore 13, 2)) (hb : 13 < mi.2.2.1) (hp : aw_c1 a12 = true) (n : AW w P d mi k (pc + 2) (a0 :: a1 :: a2 :: a3 :: a4 :: a5 :: a6 :: a7 :: a8 :: a9 :: a10 :: a11 :: a12 :: some (.ref x) :: r) st h) : AW w P d mi k pc (a0 :: a1 :: a2 :: a3 :: a4 :: a5 :: a6 :: a7 :: a8 :: a9 :: a10 :: a11 :: a12 :: b :: r) (.ref x :: st) h := aw_astore K hd hb (fun j o hj ho => by
  obtain rfl : j = 12 := by omega
  simp at ho
  subst ho
  exact hp) n
theorem aw_ii13 (K : AOK w mi k) {a0 a1 a2 a3 a4 a5 a6 a7 a8 a9 a10 a11 a12 : Option Value} {r : List (Option Value)} {x v : Int32} {n0 : Int} (hd : decode mi.2.1 pc = .ok (.iinc 13 n0, 3)) (hv : x + Int32.ofInt n0 = v) (hb : 13 < mi.2.2.1) (hp : aw_c1 a12 = true) (n : AW w P d mi k (pc + 3) (a0 :: a1 :: a2 :: a3 :: a4 :: a5 :: a6 :: a7 :: a8 :: a9 :: a10 :: a11 :: a12 :: some (.int v) :: r) st h) : AW w P d mi k pc (a0 :: a1 :: a2 :: a3 :: a4 :: a5 :: a6 :: a7 :: a8 :: a9 :: a10 :: a11 :: a12 :: some (.int x) :: r) st h := aw_iinc K hd rfl hv hb (fun j o hj ho => by
  obtain rfl : j = 12 := by omega
  simp at ho
  subst ho
  exact hp) n
theorem aw_il14 (K : AOK w mi k) {a0 a1 a2 a3 a4 a5 a6 a7 a8 a9 a10 a11 a12 a13 : Option Value} {r : List (Option Value)} {x : Int32} (hd : decode mi.2.1 pc = .ok (.iload 14, 2)) (n : AW w P d mi k (pc + 2) (a0 :: a1 :: a2 :: a3 :: a4 :: a5 :: a6 :: a7 :: a8 :: a9 :: a10 :: a11 :: a12 :: a13 :: some (.int x) :: r) (.int x :: st) h) : AW w P d mi k pc (a0 :: a1 :: a2 :: a3 :: a4 :: a5 :: a6 :: a7 :: a8 :: a9 :: a10 :: a11 :: a12 :: a13 :: some (.int x) :: r) st h := aw_iload K hd rfl n
theorem aw_is14 (K : AOK w mi k) {a0 a1 a2 a3 a4 a5 a6 a7 a8 a9 a10 a11 a12 a13 : Option Value} {b : Option Value} {r : List (Option Value)} {x : Int32} (hd : decode mi.2.1 pc = .ok (.istore 14, 2)) (hb : 14 < mi.2.2.1) (hp : aw_c1 a13 = true) (n : AW w P d mi k (pc + 2) (a0 :: a1 :: a2 :: a3 :: a4 :: a5 :: a6 :: a7 :: a8 :: a9 :: a10 :: a11 :: a12 :: a13 :: some (.int x) :: r) st h) : AW w P d mi k pc (a0 :: a1 :: a2 :: a3 :: a4 :: a5 :: a6 :: a7 :: a8 :: a9 :: a10 :: a11 :: a12 :: a13 :: b :: r) (.int x :: st) h := aw_istore K hd hb (fun j o hj ho => by
  obtain rfl : j = 13 := by omega
  simp at ho
  subst ho
  exact hp) n
theorem aw_ll14 (K : AOK w mi k) {a0 a1 a2 a3 a4 a5 a6 a7 a8 a9 a10 a11 a12 a13 : Option Value} {r : List (Option Value)} {x : Int64} (hd : decode mi.2.1 pc = .ok (.lload 14, 2)) (n : AW w P d mi k (pc + 2) (a0 :: a1 :: a2 :: a3 :: a4 :: a5 :: a6 :: a7 :: a8 :: a9 :: a10 :: a11 :: a12 :: a13 :: some (.long x) :: r) (.long x :: st) h) : AW w P d mi k pc (a0 :: a1 :: a2 :: a3 :: a4 :: a5 :: a6 :: a7 :: a8 :: a9 :: a10 :: a11 :: a12 :: a13 :: some (.long x) :: r) st h := aw_lload K hd rfl n
theorem aw_ls14 (K : AOK w mi k) {a0 a1 a2 a3 a4 a5 a6 a7 a8 a9 a10 a11 a12 a13 : Option Value} {b b2 : Option Value} {r : List (Option Value)} {x : Int64} (hd : decode mi.2.1 pc = .ok (.lstore 14, 2)) (hb : 15 < mi.2.2.1) (hp : aw_c1 a13 = true) (n : AW w P d mi k (pc + 2) (a0 :: a1 :: a2 :: a3 :: a4 :: a5 :: a6 :: a7 :: a8 :: a9 :: a10 :: a11 :: a12 :: a13 :: some (.long x) :: none :: r) st h) : AW w P d mi k pc (a0 :: a1 :: a2 :: a3 :: a4 :: a5 :: a6 :: a7 :: a8 :: a9 :: a10 :: a11 :: a12 :: a13 :: b :: b2 :: r) (.long x :: st) h := aw_lstore K hd hb (fun j o hj ho => by
  obtain rfl : j = 13 := by omega
  simp at ho
  subst ho
  exact hp) n
theorem aw_al14 (K : AOK w mi k) {a0 a1 a2 a3 a4 a5 a6 a7 a8 a9 a10 a11 a12 a13 : Option Value} {r : List (Option Value)} {x : Nat} (hd : decode mi.2.1 pc = .ok (.aload 14, 2)) (n : AW w P d mi k (pc + 2) (a0 :: a1 :: a2 :: a3 :: a4 :: a5 :: a6 :: a7 :: a8 :: a9 :: a10 :: a11 :: a12 :: a13 :: some (.ref x) :: r) (.ref x :: st) h) : AW w P d mi k pc (a0 :: a1 :: a2 :: a3 :: a4 :: a5 :: a6 :: a7 :: a8 :: a9 :: a10 :: a11 :: a12 :: a13 :: some (.ref x) :: r) st h := aw_aload K hd rfl n
theorem aw_as14 (K : AOK w mi k) {a0 a1 a2 a3 a4 a5 a6 a7 a8 a9 a10 a11 a12 a13 : Option Value} {b : Option Value} {r : List (Option Value)} {x : Nat} (hd : decode mi.2.1 pc = .ok (.astore 14, 2)) (hb : 14 < mi.2.2.1) (hp : aw_c1 a13 = true) (n : AW w P d mi k (pc + 2) (a0 :: a1 :: a2 :: a3 :: a4 :: a5 :: a6 :: a7 :: a8 :: a9 :: a10 :: a11 :: a12 :: a13 :: some (.ref x) :: r) st h) : AW w P d mi k pc (a0 :: a1 :: a2 :: a3 :: a4 :: a5 :: a6 :: a7 :: a8 :: a9 :: a10 :: a11 :: a12 :: a13 :: b :: r) (.ref x :: st) h := aw_astore K hd hb (fun j o hj ho => by
  obtain rfl : j = 13 := by omega
  simp at ho
  subst ho
  exact hp) n
theorem aw_ii14 (K : AOK w mi k) {a0 a1 a2 a3 a4 a5 a6 a7 a8 a9 a10 a11 a12 a13 : Option Value} {r : List (Option Value)} {x v : Int32} {n0 : Int} (hd : decode mi.2.1 pc = .ok (.iinc 14 n0, 3)) (hv : x + Int32.ofInt n0 = v) (hb : 14 < mi.2.2.1) (hp : aw_c1 a13 = true) (n : AW w P d mi k (pc + 3) (a0 :: a1 :: a2 :: a3 :: a4 :: a5 :: a6 :: a7 :: a8 :: a9 :: a10 :: a11 :: a12 :: a13 :: some (.int v) :: r) st h) : AW w P d mi k pc (a0 :: a1 :: a2 :: a3 :: a4 :: a5 :: a6 :: a7 :: a8 :: a9 :: a10 :: a11 :: a12 :: a13 :: some (.int x) :: r) st h := aw_iinc K hd rfl hv hb (fun j o hj ho => by
  obtain rfl : j = 13 := by omega
  simp at ho
  subst ho
  exact hp) n
theorem aw_il15 (K : AOK w mi k) {a0 a1 a2 a3 a4 a5 a6 a7 a8 a9 a10 a11 a12 a13 a14 : Option Value} {r : List (Option Value)} {x : Int32} (hd : decode mi.2.1 pc = .ok (.iload 15, 2)) (n : AW w P d mi k (pc + 2) (a0 :: a1 :: a2 :: a3 :: a4 :: a5 :: a6 :: a7 :: a8 :: a9 :: a10 :: a11 :: a12 :: a13 :: a14 :: some (.int x) :: r) (.int x :: st) h) : AW w P d mi k pc (a0 :: a1 :: a2 :: a3 :: a4 :: a5 :: a6 :: a7 :: a8 :: a9 :: a10 :: a11 :: a12 :: a13 :: a14 :: some (.int x) :: r) st h := aw_iload K hd rfl n
theorem aw_is15 (K : AOK w mi k) {a0 a1 a2 a3 a4 a5 a6 a7 a8 a9 a10 a11 a12 a13 a14 : Option Value} {b : Option Value} {r : List (Option Value)} {x : Int32} (hd : decode mi.2.1 pc = .ok (.istore 15, 2)) (hb : 15 < mi.2.2.1) (hp : aw_c1 a14 = true) (n : AW w P d mi k (pc + 2) (a0 :: a1 :: a2 :: a3 :: a4 :: a5 :: a6 :: a7 :: a8 :: a9 :: a10 :: a11 :: a12 :: a13 :: a14 :: some (.int x) :: r) st h) : AW w P d mi k pc (a0 :: a1 :: a2 :: a3 :: a4 :: a5 :: a6 :: a7 :: a8 :: a9 :: a10 :: a11 :: a12 :: a13 :: a14 :: b :: r) (.int x :: st) h := aw_istore K hd hb (fun j o hj ho => by
  obtain rfl : j = 14 := by omega
  simp at ho
  subst ho
  exact hp) n
theorem aw_ll15 (K : AOK w mi k) {a0 a1 a2 a3 a4 a5 a6 a7 a8 a9 a10 a11 a12 a13 a14 : Option Value} {r : List (Option Value)} {x : Int64} (hd : decode mi.2.1 pc = .ok (.lload 15, 2)) (n : AW w P d mi k (pc + 2) (a0 :: a1 :: a2 :: a3 :: a4 :: a5 :: a6 :: a7 :: a8 :: a9 :: a10 :: a11 :: a12 :: a13 :: a14 :: some (.long x) :: r) (.long x :: st) h) : AW w P d mi k pc (a0 :: a1 :: a2 :: a3 :: a4 :: a5 :: a6 :: a7 :: a8 :: a9 :: a10 :: a11 :: a12 :: a13 :: a14 :: some (.long x) :: r) st h := aw_lload K hd rfl n
theorem aw_ls15 (K : AOK w mi k) {a0 a1 a2 a3 a4 a5 a6 a7 a8 a9 a10 a11 a12 a13 a14 : Option Value} {b b2 : Option Value} {r : List (Option Value)} {x : Int64} (hd : decode mi.2.1 pc = .ok (.lstore 15, 2)) (hb : 16 < mi.2.2.1) (hp : aw_c1 a14 = true) (n : AW w P d mi k (pc + 2) (a0 :: a1 :: a2 :: a3 :: a4 :: a5 :: a6 :: a7 :: a8 :: a9 :: a10 :: a11 :: a12 :: a13 :: a14 :: some (.long x) :: none :: r) st h) : AW w P d mi k pc (a0 :: a1 :: a2 :: a3 :: a4 :: a5 :: a6 :: a7 :: a8 :: a9 :: a10 :: a11 :: a12 :: a13 :: a14 :: b :: b2 :: r) (.long x :: st) h := aw_lstore K hd hb (fun j o hj ho => by
  obtain rfl : j = 14 := by omega
  simp at ho
  subst ho
  exact hp) n
theorem aw_al15 (K : AOK w mi k) {a0 a1 a2 a3 a4 a5 a6 a7 a8 a9 a10 a11 a12 a13 a14 : Option Value} {r : List (Option Value)} {x : Nat} (hd : decode mi.2.1 pc = .ok (.aload 15, 2)) (n : AW w P d mi k (pc + 2) (a0 :: a1 :: a2 :: a3 :: a4 :: a5 :: a6 :: a7 :: a8 :: a9 :: a10 :: a11 :: a12 :: a13 :: a14 :: some (.ref x) :: r) (.ref x :: st) h) : AW w P d mi k pc (a0 :: a1 :: a2 :: a3 :: a4 :: a5 :: a6 :: a7 :: a8 :: a9 :: a10 :: a11 :: a12 :: a13 :: a14 :: some (.ref x) :: r) st h := aw_aload K hd rfl n
theorem aw_as15 (K : AOK w mi k) {a0 a1 a2 a3 a4 a5 a6 a7 a8 a9 a10 a11 a12 a13 a14 : Option Value} {b : Option Value} {r : List (Option Value)} {x : Nat} (hd : decode mi.2.1 pc = .ok (.astore 15, 2)) (hb : 15 < mi.2.2.1) (hp : aw_c1 a14 = true) (n : AW w P d mi k (pc + 2) (a0 :: a1 :: a2 :: a3 :: a4 :: a5 :: a6 :: a7 :: a8 :: a9 :: a10 :: a11 :: a12 :: a13 :: a14 :: some (.ref x) :: r) st h) : AW w P d mi k pc (a0 :: a1 :: a2 :: a3 :: a4 :: a5 :: a6 :: a7 :: a8 :: a9 :: a10 :: a11 :: a12 :: a13 :: a14 :: b :: r) (.ref x :: st) h := aw_astore K hd hb (fun j o hj ho => by
  obtain rfl : j = 14 := by omega
  simp at ho
  subst ho
  exact hp) n
theorem aw_ii15 (K : AOK w mi k) {a0 a1 a2 a3 a4 a5 a6 a7 a8 a9 a10 a11 a12 a13 a14 : Option Value} {r : List (Option Value)} {x v : Int32} {n0 : Int} (hd : decode mi.2.1 pc = .ok (.iinc 15 n0, 3)) (hv : x + Int32.ofInt n0 = v) (hb : 15 < mi.2.2.1) (hp : aw_c1 a14 = true) (n : AW w P d mi k (pc + 3) (a0 :: a1 :: a2 :: a3 :: a4 :: a5 :: a6 :: a7 :: a8 :: a9 :: a10 :: a11 :: a12 :: a13 :: a14 :: some (.int v) :: r) st h) : AW w P d mi k pc (a0 :: a1 :: a2 :: a3 :: a4 :: a5 :: a6 :: a7 :: a8 :: a9 :: a10 :: a11 :: a12 :: a13 :: a14 :: some (.int x) :: r) st h := aw_iinc K hd rfl hv hb (fun j o hj ho => by
  obtain rfl : j = 14 := by omega
  simp at ho
  subst ho
  exact hp) n
end AWL
/-- a contract out of a walk, the locals laid out -/
theorem CT.at {w : WT} {d : Nat} {mi : MI} {av : List Value} {h : HS} {P : Option Value → HS → Prop} (L0 : List (Option Value)) (pad : Nat) (hL : aw_en av ++ List.replicate pad none = L0) (hy : plainName mi.1.cls = true) (hn : (lg_sl av).length ≤ mi.2.2.1)
    (body : ∀ k : KT, AOK w mi k → AW w P d mi k 0 L0 [] h) : CT w d mi av h P := by
  refine CT.of hy hn (fun k K => ?_)
  have hb := body k K
  obtain ⟨p, e, s, m, args, below, meth, c, A⟩ := k
  refine fun H lo la a1 a2 a3 a4 => hb H lo la ⟨a1.1, a1.2.1, fun i v hv => ?_⟩ a2 a3 a4
  rw [← hL] at hv
  by_cases hi : i < (aw_en av).length
  · rw [List.getElem?_append_left hi] at hv
    exact a1.2.2 i v hv
  · rw [List.getElem?_append_right (by omega), List.getElem?_replicate] at hv
    split at hv <;> simp at hv
/-- a truth as an int -/
def bI (p : Prop) [Decidable p] : Int32 := if p then 1 else 0
theorem bI_nar (p : Prop) [Decidable p] : narrow .boolean (.int (bI p)) = .int (bI p) := by
  unfold bI
  split <;> rfl
theorem bI_t {p : Prop} [Decidable p] (h : p) : bI p = 1 := if_pos h
theorem bI_f {p : Prop} [Decidable p] (h : ¬ p) : bI p = 0 := if_neg h
theorem bI_0 {p : Prop} [Decidable p] : bI p = 0 ↔ ¬ p := by
  unfold bI
  split
  · simp [*]
  · simp [*]
theorem bI_1 {p : Prop} [Decidable p] : ¬ bI p = 0 ↔ p := by rw [bI_0]; exact Classical.not_not
theorem bI_congr {p q : Prop} [Decidable p] [Decidable q] (h : p ↔ q) : bI p = bI q := by
  unfold bI
  by_cases hp : p
  · rw [if_pos hp, if_pos (h.mp hp)]
  · rw [if_neg hp, if_neg (fun x => hp (h.mpr x))]
end
