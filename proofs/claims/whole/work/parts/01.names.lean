-- ===== PART A: goes FIRST, ahead of the names: the tables' words, and 'selects' of the private methods out of them =====
/-- a private method of a class that the tables say can be made, by its rows of tables_1 -/
def lw_okq (q : MethodName × Nat) : Prop := (q.1.cls ≠ "java/lang/invoke/MethodHandle" ∧ q.1.cls ≠ "java/lang/invoke/VarHandle") ∧ Cond.instantiable q.1.cls q.2 ∈ tables_1 ∧ Cond.privateMethod q.1 ∈ tables_1 ∧ Cond.instanceMethod q.1 ∈ tables_1
theorem lw_p0 : lw_okq (⟨"OilRound", "houseAt", "(I)LOilRound$House;"⟩, 14) := ⟨⟨by decide +kernel, by decide +kernel⟩, List.mem_of_getElem? (i := 15) (by decide +kernel), List.mem_of_getElem? (i := 256) (by decide +kernel), List.mem_of_getElem? (i := 257) (by decide +kernel)⟩
theorem lw_p1 : lw_okq (⟨"OilRound$House", "low", "(I)I"⟩, 15) := ⟨⟨by decide +kernel, by decide +kernel⟩, List.mem_of_getElem? (i := 164) (by decide +kernel), List.mem_of_getElem? (i := 272) (by decide +kernel), List.mem_of_getElem? (i := 273) (by decide +kernel)⟩
theorem lw_p2 : lw_okq (⟨"OilRound$House", "high", "(I)I"⟩, 15) := ⟨⟨by decide +kernel, by decide +kernel⟩, List.mem_of_getElem? (i := 164) (by decide +kernel), List.mem_of_getElem? (i := 279) (by decide +kernel), List.mem_of_getElem? (i := 280) (by decide +kernel)⟩
theorem lw_p3 : lw_okq (⟨"OilRound", "countDue", "()I"⟩, 14) := ⟨⟨by decide +kernel, by decide +kernel⟩, List.mem_of_getElem? (i := 15) (by decide +kernel), List.mem_of_getElem? (i := 291) (by decide +kernel), List.mem_of_getElem? (i := 292) (by decide +kernel)⟩
theorem lw_p4 : lw_okq (⟨"OilRound", "mostUrgent", "(I)I"⟩, 14) := ⟨⟨by decide +kernel, by decide +kernel⟩, List.mem_of_getElem? (i := 15) (by decide +kernel), List.mem_of_getElem? (i := 333) (by decide +kernel), List.mem_of_getElem? (i := 334) (by decide +kernel)⟩
theorem lw_p5 : lw_okq (⟨"OilRound", "isNoRound", "(I)Z"⟩, 14) := ⟨⟨by decide +kernel, by decide +kernel⟩, List.mem_of_getElem? (i := 15) (by decide +kernel), List.mem_of_getElem? (i := 350) (by decide +kernel), List.mem_of_getElem? (i := 351) (by decide +kernel)⟩
theorem lw_p6 : lw_okq (⟨"OilRound", "needOf", "(I)I"⟩, 14) := ⟨⟨by decide +kernel, by decide +kernel⟩, List.mem_of_getElem? (i := 15) (by decide +kernel), List.mem_of_getElem? (i := 354) (by decide +kernel), List.mem_of_getElem? (i := 355) (by decide +kernel)⟩
theorem lw_p7 : lw_okq (⟨"OilRound$Route", "gather", "(I[LOilRound$House;)V"⟩, 7) := ⟨⟨by decide +kernel, by decide +kernel⟩, List.mem_of_getElem? (i := 25) (by decide +kernel), List.mem_of_getElem? (i := 362) (by decide +kernel), List.mem_of_getElem? (i := 363) (by decide +kernel)⟩
theorem lw_p8 : lw_okq (⟨"OilRound$Route", "measure", "(II)V"⟩, 7) := ⟨⟨by decide +kernel, by decide +kernel⟩, List.mem_of_getElem? (i := 25) (by decide +kernel), List.mem_of_getElem? (i := 367) (by decide +kernel), List.mem_of_getElem? (i := 368) (by decide +kernel)⟩
theorem lw_p9 : lw_okq (⟨"OilRound$Route", "between", "(II)I"⟩, 7) := ⟨⟨by decide +kernel, by decide +kernel⟩, List.mem_of_getElem? (i := 25) (by decide +kernel), List.mem_of_getElem? (i := 371) (by decide +kernel), List.mem_of_getElem? (i := 372) (by decide +kernel)⟩
theorem lw_p10 : lw_okq (⟨"OilRound$Route", "wayBy", "(III)I"⟩, 7) := ⟨⟨by decide +kernel, by decide +kernel⟩, List.mem_of_getElem? (i := 25) (by decide +kernel), List.mem_of_getElem? (i := 380) (by decide +kernel), List.mem_of_getElem? (i := 381) (by decide +kernel)⟩
theorem lw_p11 : lw_okq (⟨"OilRound$Route", "leastAt", "(II)I"⟩, 7) := ⟨⟨by decide +kernel, by decide +kernel⟩, List.mem_of_getElem? (i := 25) (by decide +kernel), List.mem_of_getElem? (i := 384) (by decide +kernel), List.mem_of_getElem? (i := 385) (by decide +kernel)⟩
theorem lw_p12 : lw_okq (⟨"OilRound$Route", "arrange", "()V"⟩, 7) := ⟨⟨by decide +kernel, by decide +kernel⟩, List.mem_of_getElem? (i := 25) (by decide +kernel), List.mem_of_getElem? (i := 389) (by decide +kernel), List.mem_of_getElem? (i := 390) (by decide +kernel)⟩
theorem lw_p13 : lw_okq (⟨"OilRound$Route", "firstNext", "(II)I"⟩, 7) := ⟨⟨by decide +kernel, by decide +kernel⟩, List.mem_of_getElem? (i := 25) (by decide +kernel), List.mem_of_getElem? (i := 393) (by decide +kernel), List.mem_of_getElem? (i := 394) (by decide +kernel)⟩
theorem lw_p14 : lw_okq (⟨"OilRound$Plan", "ahead", "(I)I"⟩, 3) := ⟨⟨by decide +kernel, by decide +kernel⟩, List.mem_of_getElem? (i := 170) (by decide +kernel), List.mem_of_getElem? (i := 419) (by decide +kernel), List.mem_of_getElem? (i := 420) (by decide +kernel)⟩
theorem lw_p15 : lw_okq (⟨"OilRound$House", "noteOf", "(I)I"⟩, 15) := ⟨⟨by decide +kernel, by decide +kernel⟩, List.mem_of_getElem? (i := 164) (by decide +kernel), List.mem_of_getElem? (i := 431) (by decide +kernel), List.mem_of_getElem? (i := 432) (by decide +kernel)⟩
def lw_privs_1 : List (MethodName × Nat) := [(⟨"OilRound", "houseAt", "(I)LOilRound$House;"⟩, 14), (⟨"OilRound$House", "low", "(I)I"⟩, 15), (⟨"OilRound$House", "high", "(I)I"⟩, 15), (⟨"OilRound", "countDue", "()I"⟩, 14), (⟨"OilRound", "mostUrgent", "(I)I"⟩, 14), (⟨"OilRound", "isNoRound", "(I)Z"⟩, 14), (⟨"OilRound", "needOf", "(I)I"⟩, 14), (⟨"OilRound$Route", "gather", "(I[LOilRound$House;)V"⟩, 7), (⟨"OilRound$Route", "measure", "(II)V"⟩, 7), (⟨"OilRound$Route", "between", "(II)I"⟩, 7), (⟨"OilRound$Route", "wayBy", "(III)I"⟩, 7), (⟨"OilRound$Route", "leastAt", "(II)I"⟩, 7), (⟨"OilRound$Route", "arrange", "()V"⟩, 7), (⟨"OilRound$Route", "firstNext", "(II)I"⟩, 7), (⟨"OilRound$Plan", "ahead", "(I)I"⟩, 3), (⟨"OilRound$House", "noteOf", "(I)I"⟩, 15)]
theorem lw_r1 : ∀ q ∈ lw_privs_1, lw_okq q := List.forall_mem_cons.mpr ⟨lw_p0, List.forall_mem_cons.mpr ⟨lw_p1, List.forall_mem_cons.mpr ⟨lw_p2, List.forall_mem_cons.mpr ⟨lw_p3, List.forall_mem_cons.mpr ⟨lw_p4, List.forall_mem_cons.mpr ⟨lw_p5, List.forall_mem_cons.mpr ⟨lw_p6, List.forall_mem_cons.mpr ⟨lw_p7, List.forall_mem_cons.mpr ⟨lw_p8, List.forall_mem_cons.mpr ⟨lw_p9, List.forall_mem_cons.mpr ⟨lw_p10, List.forall_mem_cons.mpr ⟨lw_p11, List.forall_mem_cons.mpr ⟨lw_p12, List.forall_mem_cons.mpr ⟨lw_p13, List.forall_mem_cons.mpr ⟨lw_p14, List.forall_mem_cons.mpr ⟨lw_p15, fun _ h => absurd h List.not_mem_nil⟩⟩⟩⟩⟩⟩⟩⟩⟩⟩⟩⟩⟩⟩⟩⟩
theorem lw_p16 : lw_okq (⟨"OilRound$House", "narrow", "(I)V"⟩, 15) := ⟨⟨by decide +kernel, by decide +kernel⟩, List.mem_of_getElem? (i := 164) (by decide +kernel), List.mem_of_getElem? (i := 435) (by decide +kernel), List.mem_of_getElem? (i := 436) (by decide +kernel)⟩
theorem lw_p17 : lw_okq (⟨"OilRound$PlanText", "readOnce", "([LOilRound$House;Z)I"⟩, 12) := ⟨⟨by decide +kernel, by decide +kernel⟩, List.mem_of_getElem? (i := 54) (by decide +kernel), List.mem_of_getElem? (i := 469) (by decide +kernel), List.mem_of_getElem? (i := 470) (by decide +kernel)⟩
theorem lw_p18 : lw_okq (⟨"OilRound$PlanText", "readToken", "()V"⟩, 12) := ⟨⟨by decide +kernel, by decide +kernel⟩, List.mem_of_getElem? (i := 54) (by decide +kernel), List.mem_of_getElem? (i := 473) (by decide +kernel), List.mem_of_getElem? (i := 474) (by decide +kernel)⟩
theorem lw_p19 : lw_okq (⟨"OilRound$PlanText", "byteAt", "(I)I"⟩, 12) := ⟨⟨by decide +kernel, by decide +kernel⟩, List.mem_of_getElem? (i := 54) (by decide +kernel), List.mem_of_getElem? (i := 477) (by decide +kernel), List.mem_of_getElem? (i := 478) (by decide +kernel)⟩
theorem lw_p20 : lw_okq (⟨"OilRound$PlanText", "nameToken", "()I"⟩, 12) := ⟨⟨by decide +kernel, by decide +kernel⟩, List.mem_of_getElem? (i := 54) (by decide +kernel), List.mem_of_getElem? (i := 484) (by decide +kernel), List.mem_of_getElem? (i := 485) (by decide +kernel)⟩
theorem lw_p21 : lw_okq (⟨"OilRound$PlanText", "isName", "(Ljava/lang/String;)Z"⟩, 12) := ⟨⟨by decide +kernel, by decide +kernel⟩, List.mem_of_getElem? (i := 54) (by decide +kernel), List.mem_of_getElem? (i := 489) (by decide +kernel), List.mem_of_getElem? (i := 490) (by decide +kernel)⟩
theorem lw_p22 : lw_okq (⟨"OilRound$PlanText", "numberToken", "()I"⟩, 12) := ⟨⟨by decide +kernel, by decide +kernel⟩, List.mem_of_getElem? (i := 54) (by decide +kernel), List.mem_of_getElem? (i := 547) (by decide +kernel), List.mem_of_getElem? (i := 548) (by decide +kernel)⟩
theorem lw_p23 : lw_okq (⟨"OilRound$PlanText", "takeToken", "([LOilRound$House;)I"⟩, 12) := ⟨⟨by decide +kernel, by decide +kernel⟩, List.mem_of_getElem? (i := 54) (by decide +kernel), List.mem_of_getElem? (i := 551) (by decide +kernel), List.mem_of_getElem? (i := 552) (by decide +kernel)⟩
theorem lw_p24 : lw_okq (⟨"OilRound$PlanText", "canStandHere", "()Z"⟩, 12) := ⟨⟨by decide +kernel, by decide +kernel⟩, List.mem_of_getElem? (i := 54) (by decide +kernel), List.mem_of_getElem? (i := 555) (by decide +kernel), List.mem_of_getElem? (i := 556) (by decide +kernel)⟩
theorem lw_p25 : lw_okq (⟨"OilRound$PlanText", "takeWay", "()V"⟩, 12) := ⟨⟨by decide +kernel, by decide +kernel⟩, List.mem_of_getElem? (i := 54) (by decide +kernel), List.mem_of_getElem? (i := 560) (by decide +kernel), List.mem_of_getElem? (i := 561) (by decide +kernel)⟩
theorem lw_p26 : lw_okq (⟨"OilRound$House", "isLeaky", "()Z"⟩, 15) := ⟨⟨by decide +kernel, by decide +kernel⟩, List.mem_of_getElem? (i := 164) (by decide +kernel), List.mem_of_getElem? (i := 585) (by decide +kernel), List.mem_of_getElem? (i := 586) (by decide +kernel)⟩
theorem lw_p27 : lw_okq (⟨"OilRound$House", "isSteady", "()Z"⟩, 15) := ⟨⟨by decide +kernel, by decide +kernel⟩, List.mem_of_getElem? (i := 164) (by decide +kernel), List.mem_of_getElem? (i := 589) (by decide +kernel), List.mem_of_getElem? (i := 590) (by decide +kernel)⟩
theorem lw_p28 : lw_okq (⟨"OilRound$House", "isKnown", "()Z"⟩, 15) := ⟨⟨by decide +kernel, by decide +kernel⟩, List.mem_of_getElem? (i := 164) (by decide +kernel), List.mem_of_getElem? (i := 593) (by decide +kernel), List.mem_of_getElem? (i := 594) (by decide +kernel)⟩
theorem lw_p29 : lw_okq (⟨"OilRound$Asks", "leakyWeight", "(LOilRound$House;)I"⟩, 2) := ⟨⟨by decide +kernel, by decide +kernel⟩, List.mem_of_getElem? (i := 100) (by decide +kernel), List.mem_of_getElem? (i := 619) (by decide +kernel), List.mem_of_getElem? (i := 620) (by decide +kernel)⟩
theorem lw_p30 : lw_okq (⟨"OilRound$Asks", "begin", "(I)V"⟩, 2) := ⟨⟨by decide +kernel, by decide +kernel⟩, List.mem_of_getElem? (i := 100) (by decide +kernel), List.mem_of_getElem? (i := 623) (by decide +kernel), List.mem_of_getElem? (i := 624) (by decide +kernel)⟩
theorem lw_p31 : lw_okq (⟨"OilRound$Asks", "lentWeight", "(LOilRound$House;)I"⟩, 2) := ⟨⟨by decide +kernel, by decide +kernel⟩, List.mem_of_getElem? (i := 100) (by decide +kernel), List.mem_of_getElem? (i := 627) (by decide +kernel), List.mem_of_getElem? (i := 628) (by decide +kernel)⟩
def lw_privs_2 : List (MethodName × Nat) := [(⟨"OilRound$House", "narrow", "(I)V"⟩, 15), (⟨"OilRound$PlanText", "readOnce", "([LOilRound$House;Z)I"⟩, 12), (⟨"OilRound$PlanText", "readToken", "()V"⟩, 12), (⟨"OilRound$PlanText", "byteAt", "(I)I"⟩, 12), (⟨"OilRound$PlanText", "nameToken", "()I"⟩, 12), (⟨"OilRound$PlanText", "isName", "(Ljava/lang/String;)Z"⟩, 12), (⟨"OilRound$PlanText", "numberToken", "()I"⟩, 12), (⟨"OilRound$PlanText", "takeToken", "([LOilRound$House;)I"⟩, 12), (⟨"OilRound$PlanText", "canStandHere", "()Z"⟩, 12), (⟨"OilRound$PlanText", "takeWay", "()V"⟩, 12), (⟨"OilRound$House", "isLeaky", "()Z"⟩, 15), (⟨"OilRound$House", "isSteady", "()Z"⟩, 15), (⟨"OilRound$House", "isKnown", "()Z"⟩, 15), (⟨"OilRound$Asks", "leakyWeight", "(LOilRound$House;)I"⟩, 2), (⟨"OilRound$Asks", "begin", "(I)V"⟩, 2), (⟨"OilRound$Asks", "lentWeight", "(LOilRound$House;)I"⟩, 2)]
theorem lw_r2 : ∀ q ∈ lw_privs_2, lw_okq q := List.forall_mem_cons.mpr ⟨lw_p16, List.forall_mem_cons.mpr ⟨lw_p17, List.forall_mem_cons.mpr ⟨lw_p18, List.forall_mem_cons.mpr ⟨lw_p19, List.forall_mem_cons.mpr ⟨lw_p20, List.forall_mem_cons.mpr ⟨lw_p21, List.forall_mem_cons.mpr ⟨lw_p22, List.forall_mem_cons.mpr ⟨lw_p23, List.forall_mem_cons.mpr ⟨lw_p24, List.forall_mem_cons.mpr ⟨lw_p25, List.forall_mem_cons.mpr ⟨lw_p26, List.forall_mem_cons.mpr ⟨lw_p27, List.forall_mem_cons.mpr ⟨lw_p28, List.forall_mem_cons.mpr ⟨lw_p29, List.forall_mem_cons.mpr ⟨lw_p30, List.forall_mem_cons.mpr ⟨lw_p31, fun _ h => absurd h List.not_mem_nil⟩⟩⟩⟩⟩⟩⟩⟩⟩⟩⟩⟩⟩⟩⟩⟩
theorem lw_p32 : lw_okq (⟨"OilRound$Asks", "steadyWeight", "(LOilRound$House;)I"⟩, 2) := ⟨⟨by decide +kernel, by decide +kernel⟩, List.mem_of_getElem? (i := 100) (by decide +kernel), List.mem_of_getElem? (i := 631) (by decide +kernel), List.mem_of_getElem? (i := 632) (by decide +kernel)⟩
theorem lw_p33 : lw_okq (⟨"OilRound$Asks", "knownWeight", "(LOilRound$House;)I"⟩, 2) := ⟨⟨by decide +kernel, by decide +kernel⟩, List.mem_of_getElem? (i := 100) (by decide +kernel), List.mem_of_getElem? (i := 635) (by decide +kernel), List.mem_of_getElem? (i := 636) (by decide +kernel)⟩
theorem lw_p34 : lw_okq (⟨"OilRound$Asks", "leakyMark", "(LOilRound$House;)I"⟩, 2) := ⟨⟨by decide +kernel, by decide +kernel⟩, List.mem_of_getElem? (i := 100) (by decide +kernel), List.mem_of_getElem? (i := 643) (by decide +kernel), List.mem_of_getElem? (i := 644) (by decide +kernel)⟩
theorem lw_p35 : lw_okq (⟨"OilRound$Asks", "lentMark", "(LOilRound$House;)I"⟩, 2) := ⟨⟨by decide +kernel, by decide +kernel⟩, List.mem_of_getElem? (i := 100) (by decide +kernel), List.mem_of_getElem? (i := 647) (by decide +kernel), List.mem_of_getElem? (i := 648) (by decide +kernel)⟩
theorem lw_p36 : lw_okq (⟨"OilRound$Asks", "knownMark", "(LOilRound$House;)I"⟩, 2) := ⟨⟨by decide +kernel, by decide +kernel⟩, List.mem_of_getElem? (i := 100) (by decide +kernel), List.mem_of_getElem? (i := 652) (by decide +kernel), List.mem_of_getElem? (i := 653) (by decide +kernel)⟩
theorem lw_p37 : lw_okq (⟨"OilRoundModel", "isHouse", "(I)Z"⟩, 45) := ⟨⟨by decide +kernel, by decide +kernel⟩, List.mem_of_getElem? (i := 670) (by decide +kernel), List.mem_of_getElem? (i := 829) (by decide +kernel), List.mem_of_getElem? (i := 830) (by decide +kernel)⟩
theorem lw_p38 : lw_okq (⟨"OilRoundModel", "lowOf", "(II)I"⟩, 45) := ⟨⟨by decide +kernel, by decide +kernel⟩, List.mem_of_getElem? (i := 670) (by decide +kernel), List.mem_of_getElem? (i := 839) (by decide +kernel), List.mem_of_getElem? (i := 840) (by decide +kernel)⟩
theorem lw_p39 : lw_okq (⟨"OilRoundModel", "highOf", "(II)I"⟩, 45) := ⟨⟨by decide +kernel, by decide +kernel⟩, List.mem_of_getElem? (i := 670) (by decide +kernel), List.mem_of_getElem? (i := 843) (by decide +kernel), List.mem_of_getElem? (i := 844) (by decide +kernel)⟩
theorem lw_p40 : lw_okq (⟨"OilRoundModel", "due", "()I"⟩, 45) := ⟨⟨by decide +kernel, by decide +kernel⟩, List.mem_of_getElem? (i := 670) (by decide +kernel), List.mem_of_getElem? (i := 852) (by decide +kernel), List.mem_of_getElem? (i := 853) (by decide +kernel)⟩
theorem lw_p41 : lw_okq (⟨"OilRoundModel", "isDue", "(I)Z"⟩, 45) := ⟨⟨by decide +kernel, by decide +kernel⟩, List.mem_of_getElem? (i := 670) (by decide +kernel), List.mem_of_getElem? (i := 856) (by decide +kernel), List.mem_of_getElem? (i := 857) (by decide +kernel)⟩
theorem lw_p42 : lw_okq (⟨"OilRoundModel", "canGo", "(I)I"⟩, 45) := ⟨⟨by decide +kernel, by decide +kernel⟩, List.mem_of_getElem? (i := 670) (by decide +kernel), List.mem_of_getElem? (i := 883) (by decide +kernel), List.mem_of_getElem? (i := 884) (by decide +kernel)⟩
theorem lw_p43 : lw_okq (⟨"OilRoundModel", "isSet", "(I)Z"⟩, 45) := ⟨⟨by decide +kernel, by decide +kernel⟩, List.mem_of_getElem? (i := 670) (by decide +kernel), List.mem_of_getElem? (i := 891) (by decide +kernel), List.mem_of_getElem? (i := 892) (by decide +kernel)⟩
theorem lw_p44 : lw_okq (⟨"OilRoundModel", "findWays", "()V"⟩, 45) := ⟨⟨by decide +kernel, by decide +kernel⟩, List.mem_of_getElem? (i := 670) (by decide +kernel), List.mem_of_getElem? (i := 896) (by decide +kernel), List.mem_of_getElem? (i := 897) (by decide +kernel)⟩
theorem lw_p45 : lw_okq (⟨"OilRoundModel", "fromDepot", "(I)I"⟩, 45) := ⟨⟨by decide +kernel, by decide +kernel⟩, List.mem_of_getElem? (i := 670) (by decide +kernel), List.mem_of_getElem? (i := 900) (by decide +kernel), List.mem_of_getElem? (i := 901) (by decide +kernel)⟩
theorem lw_p46 : lw_okq (⟨"OilRoundModel", "between", "(II)I"⟩, 45) := ⟨⟨by decide +kernel, by decide +kernel⟩, List.mem_of_getElem? (i := 670) (by decide +kernel), List.mem_of_getElem? (i := 907) (by decide +kernel), List.mem_of_getElem? (i := 908) (by decide +kernel)⟩
theorem lw_p47 : lw_okq (⟨"OilRoundModel", "nextOf", "(II)I"⟩, 45) := ⟨⟨by decide +kernel, by decide +kernel⟩, List.mem_of_getElem? (i := 670) (by decide +kernel), List.mem_of_getElem? (i := 911) (by decide +kernel), List.mem_of_getElem? (i := 912) (by decide +kernel)⟩
def lw_privs_3 : List (MethodName × Nat) := [(⟨"OilRound$Asks", "steadyWeight", "(LOilRound$House;)I"⟩, 2), (⟨"OilRound$Asks", "knownWeight", "(LOilRound$House;)I"⟩, 2), (⟨"OilRound$Asks", "leakyMark", "(LOilRound$House;)I"⟩, 2), (⟨"OilRound$Asks", "lentMark", "(LOilRound$House;)I"⟩, 2), (⟨"OilRound$Asks", "knownMark", "(LOilRound$House;)I"⟩, 2), (⟨"OilRoundModel", "isHouse", "(I)Z"⟩, 45), (⟨"OilRoundModel", "lowOf", "(II)I"⟩, 45), (⟨"OilRoundModel", "highOf", "(II)I"⟩, 45), (⟨"OilRoundModel", "due", "()I"⟩, 45), (⟨"OilRoundModel", "isDue", "(I)Z"⟩, 45), (⟨"OilRoundModel", "canGo", "(I)I"⟩, 45), (⟨"OilRoundModel", "isSet", "(I)Z"⟩, 45), (⟨"OilRoundModel", "findWays", "()V"⟩, 45), (⟨"OilRoundModel", "fromDepot", "(I)I"⟩, 45), (⟨"OilRoundModel", "between", "(II)I"⟩, 45), (⟨"OilRoundModel", "nextOf", "(II)I"⟩, 45)]
theorem lw_r3 : ∀ q ∈ lw_privs_3, lw_okq q := List.forall_mem_cons.mpr ⟨lw_p32, List.forall_mem_cons.mpr ⟨lw_p33, List.forall_mem_cons.mpr ⟨lw_p34, List.forall_mem_cons.mpr ⟨lw_p35, List.forall_mem_cons.mpr ⟨lw_p36, List.forall_mem_cons.mpr ⟨lw_p37, List.forall_mem_cons.mpr ⟨lw_p38, List.forall_mem_cons.mpr ⟨lw_p39, List.forall_mem_cons.mpr ⟨lw_p40, List.forall_mem_cons.mpr ⟨lw_p41, List.forall_mem_cons.mpr ⟨lw_p42, List.forall_mem_cons.mpr ⟨lw_p43, List.forall_mem_cons.mpr ⟨lw_p44, List.forall_mem_cons.mpr ⟨lw_p45, List.forall_mem_cons.mpr ⟨lw_p46, List.forall_mem_cons.mpr ⟨lw_p47, fun _ h => absurd h List.not_mem_nil⟩⟩⟩⟩⟩⟩⟩⟩⟩⟩⟩⟩⟩⟩⟩⟩
theorem lw_p48 : lw_okq (⟨"OilRoundModel", "cost", "(II)I"⟩, 45) := ⟨⟨by decide +kernel, by decide +kernel⟩, List.mem_of_getElem? (i := 670) (by decide +kernel), List.mem_of_getElem? (i := 923) (by decide +kernel), List.mem_of_getElem? (i := 924) (by decide +kernel)⟩
theorem lw_p49 : lw_okq (⟨"OilRoundModel", "makeNarrower", "(II)V"⟩, 45) := ⟨⟨by decide +kernel, by decide +kernel⟩, List.mem_of_getElem? (i := 670) (by decide +kernel), List.mem_of_getElem? (i := 930) (by decide +kernel), List.mem_of_getElem? (i := 931) (by decide +kernel)⟩
theorem lw_p50 : lw_okq (⟨"OilRoundModel", "step", "()V"⟩, 45) := ⟨⟨by decide +kernel, by decide +kernel⟩, List.mem_of_getElem? (i := 670) (by decide +kernel), List.mem_of_getElem? (i := 962) (by decide +kernel), List.mem_of_getElem? (i := 963) (by decide +kernel)⟩
theorem lw_p51 : lw_okq (⟨"OilRoundModel", "byteAt", "(I)I"⟩, 45) := ⟨⟨by decide +kernel, by decide +kernel⟩, List.mem_of_getElem? (i := 670) (by decide +kernel), List.mem_of_getElem? (i := 966) (by decide +kernel), List.mem_of_getElem? (i := 967) (by decide +kernel)⟩
theorem lw_p52 : lw_okq (⟨"OilRoundModel", "readOne", "()V"⟩, 45) := ⟨⟨by decide +kernel, by decide +kernel⟩, List.mem_of_getElem? (i := 670) (by decide +kernel), List.mem_of_getElem? (i := 976) (by decide +kernel), List.mem_of_getElem? (i := 977) (by decide +kernel)⟩
theorem lw_p53 : lw_okq (⟨"OilRoundModel", "name", "()J"⟩, 45) := ⟨⟨by decide +kernel, by decide +kernel⟩, List.mem_of_getElem? (i := 670) (by decide +kernel), List.mem_of_getElem? (i := 980) (by decide +kernel), List.mem_of_getElem? (i := 981) (by decide +kernel)⟩
theorem lw_p54 : lw_okq (⟨"OilRoundModel", "take", "(Z)V"⟩, 45) := ⟨⟨by decide +kernel, by decide +kernel⟩, List.mem_of_getElem? (i := 670) (by decide +kernel), List.mem_of_getElem? (i := 985) (by decide +kernel), List.mem_of_getElem? (i := 986) (by decide +kernel)⟩
theorem lw_p55 : lw_okq (⟨"OilRoundModel", "bad", "(I)V"⟩, 45) := ⟨⟨by decide +kernel, by decide +kernel⟩, List.mem_of_getElem? (i := 670) (by decide +kernel), List.mem_of_getElem? (i := 989) (by decide +kernel), List.mem_of_getElem? (i := 990) (by decide +kernel)⟩
theorem lw_p56 : lw_okq (⟨"OilRoundModel", "number", "()I"⟩, 45) := ⟨⟨by decide +kernel, by decide +kernel⟩, List.mem_of_getElem? (i := 670) (by decide +kernel), List.mem_of_getElem? (i := 993) (by decide +kernel), List.mem_of_getElem? (i := 994) (by decide +kernel)⟩
theorem lw_p57 : lw_okq (⟨"OilRoundModel", "is", "(I)Z"⟩, 45) := ⟨⟨by decide +kernel, by decide +kernel⟩, List.mem_of_getElem? (i := 670) (by decide +kernel), List.mem_of_getElem? (i := 1000) (by decide +kernel), List.mem_of_getElem? (i := 1001) (by decide +kernel)⟩
theorem lw_p58 : lw_okq (⟨"OilRoundModel", "kindOf", "(I)I"⟩, 45) := ⟨⟨by decide +kernel, by decide +kernel⟩, List.mem_of_getElem? (i := 670) (by decide +kernel), List.mem_of_getElem? (i := 1013) (by decide +kernel), List.mem_of_getElem? (i := 1014) (by decide +kernel)⟩
theorem lw_p59 : lw_okq (⟨"OilRoundModel", "weight", "(I)I"⟩, 45) := ⟨⟨by decide +kernel, by decide +kernel⟩, List.mem_of_getElem? (i := 670) (by decide +kernel), List.mem_of_getElem? (i := 1027) (by decide +kernel), List.mem_of_getElem? (i := 1028) (by decide +kernel)⟩
theorem lw_p60 : lw_okq (⟨"OilRoundModel", "began", "(I)V"⟩, 45) := ⟨⟨by decide +kernel, by decide +kernel⟩, List.mem_of_getElem? (i := 670) (by decide +kernel), List.mem_of_getElem? (i := 1031) (by decide +kernel), List.mem_of_getElem? (i := 1032) (by decide +kernel)⟩
theorem lw_p61 : lw_okq (⟨"OilRoundModel", "marked", "(I)I"⟩, 45) := ⟨⟨by decide +kernel, by decide +kernel⟩, List.mem_of_getElem? (i := 670) (by decide +kernel), List.mem_of_getElem? (i := 1035) (by decide +kernel), List.mem_of_getElem? (i := 1036) (by decide +kernel)⟩
def lw_privs_4 : List (MethodName × Nat) := [(⟨"OilRoundModel", "cost", "(II)I"⟩, 45), (⟨"OilRoundModel", "makeNarrower", "(II)V"⟩, 45), (⟨"OilRoundModel", "step", "()V"⟩, 45), (⟨"OilRoundModel", "byteAt", "(I)I"⟩, 45), (⟨"OilRoundModel", "readOne", "()V"⟩, 45), (⟨"OilRoundModel", "name", "()J"⟩, 45), (⟨"OilRoundModel", "take", "(Z)V"⟩, 45), (⟨"OilRoundModel", "bad", "(I)V"⟩, 45), (⟨"OilRoundModel", "number", "()I"⟩, 45), (⟨"OilRoundModel", "is", "(I)Z"⟩, 45), (⟨"OilRoundModel", "kindOf", "(I)I"⟩, 45), (⟨"OilRoundModel", "weight", "(I)I"⟩, 45), (⟨"OilRoundModel", "began", "(I)V"⟩, 45), (⟨"OilRoundModel", "marked", "(I)I"⟩, 45)]
theorem lw_r4 : ∀ q ∈ lw_privs_4, lw_okq q := List.forall_mem_cons.mpr ⟨lw_p48, List.forall_mem_cons.mpr ⟨lw_p49, List.forall_mem_cons.mpr ⟨lw_p50, List.forall_mem_cons.mpr ⟨lw_p51, List.forall_mem_cons.mpr ⟨lw_p52, List.forall_mem_cons.mpr ⟨lw_p53, List.forall_mem_cons.mpr ⟨lw_p54, List.forall_mem_cons.mpr ⟨lw_p55, List.forall_mem_cons.mpr ⟨lw_p56, List.forall_mem_cons.mpr ⟨lw_p57, List.forall_mem_cons.mpr ⟨lw_p58, List.forall_mem_cons.mpr ⟨lw_p59, List.forall_mem_cons.mpr ⟨lw_p60, List.forall_mem_cons.mpr ⟨lw_p61, fun _ h => absurd h List.not_mem_nil⟩⟩⟩⟩⟩⟩⟩⟩⟩⟩⟩⟩⟩⟩
def lw_privs : List (MethodName × Nat) := lw_privs_1 ++ (lw_privs_2 ++ (lw_privs_3 ++ (lw_privs_4)))
def lw_tbl : List Cond := k2_sels lw_privs ++ tables_1
theorem lw_privs_ok : ∀ q ∈ lw_privs, lw_okq q := by
  show ∀ q ∈ lw_privs_1 ++ (lw_privs_2 ++ (lw_privs_3 ++ (lw_privs_4))), lw_okq q
  exact List.forall_mem_append.mpr ⟨lw_r1, List.forall_mem_append.mpr ⟨lw_r2, List.forall_mem_append.mpr ⟨lw_r3, lw_r4⟩⟩⟩
-- ===== end of PART A; then your names; then what follows =====
/-! ===== BEGIN words of one list among another's, by their places ===== -/
/-! ===== END ===== -/

/-! ===== BEGIN printed: names, fields, word lists, decode rows ===== -/
def RX0 : String := "OilRound$Asks"
def TX0 : u_T := fun k => match k with
  | 0 => ("OilRound$Asks", "begun", "[I", true)
  | _ => ("OilRound$Asks", "length", "I", false)
def tyX0 : Nat → FieldType := fun k => match k with
  | 0 => .array .int
  | _ => .int
theorem nmX0 : ∀ a, a < 2 → ∀ b, b < 2 → a ≠ b → (TX0 a).2.1 ≠ (TX0 b).2.1 := by decide +kernel
theorem tyX0_ok : ∀ k, k < 2 → parseFieldDescriptor (TX0 k).2.2.1 = some (tyX0 k) := by decide +kernel
abbrev cX0_init : ByteArray := prog_2_method_1_code
def yX0_init : MethodName := ⟨RX0, "<init>", "()V"⟩
abbrev cX0_emptyTrace : ByteArray := prog_2_method_2_code
def yX0_emptyTrace : MethodName := ⟨RX0, "emptyTrace", "()V"⟩
abbrev cX0_traced : ByteArray := prog_2_method_3_code
def yX0_traced : MethodName := ⟨RX0, "traced", "(I)I"⟩
abbrev cX0_weight : ByteArray := prog_2_method_4_code
def yX0_weight : MethodName := ⟨RX0, "weight", "(LOilRound$House;)I"⟩
abbrev cX0_mark : ByteArray := prog_2_method_5_code
def yX0_mark : MethodName := ⟨RX0, "mark", "(LOilRound$House;)I"⟩
abbrev cX0_lentWeight : ByteArray := prog_2_method_6_code
def yX0_lentWeight : MethodName := ⟨RX0, "lentWeight", "(LOilRound$House;)I"⟩
abbrev cX0_knownWeight : ByteArray := prog_2_method_7_code
def yX0_knownWeight : MethodName := ⟨RX0, "knownWeight", "(LOilRound$House;)I"⟩
abbrev cX0_steadyWeight : ByteArray := prog_2_method_8_code
def yX0_steadyWeight : MethodName := ⟨RX0, "steadyWeight", "(LOilRound$House;)I"⟩
abbrev cX0_leakyWeight : ByteArray := prog_2_method_9_code
def yX0_leakyWeight : MethodName := ⟨RX0, "leakyWeight", "(LOilRound$House;)I"⟩
abbrev cX0_lentMark : ByteArray := prog_2_method_10_code
def yX0_lentMark : MethodName := ⟨RX0, "lentMark", "(LOilRound$House;)I"⟩
abbrev cX0_knownMark : ByteArray := prog_2_method_11_code
def yX0_knownMark : MethodName := ⟨RX0, "knownMark", "(LOilRound$House;)I"⟩
abbrev cX0_leakyMark : ByteArray := prog_2_method_12_code
def yX0_leakyMark : MethodName := ⟨RX0, "leakyMark", "(LOilRound$House;)I"⟩
abbrev cX0_begin : ByteArray := prog_2_method_13_code
def yX0_begin : MethodName := ⟨RX0, "begin", "(I)V"⟩
def RX1 : String := "OilRound$House"
def TX1 : u_T := fun k => match k with
  | 0 => ("OilRound$House", "x", "I", true)
  | 1 => ("OilRound$House", "y", "I", true)
  | 2 => ("OilRound$House", "holds", "I", true)
  | 3 => ("OilRound$House", "plan", "LOilRound$Plan;", true)
  | 4 => ("OilRound$House", "a", "I", false)
  | 5 => ("OilRound$House", "b", "I", false)
  | 6 => ("OilRound$House", "c", "I", false)
  | 7 => ("OilRound$House", "d", "I", false)
  | 8 => ("OilRound$House", "up", "I", false)
  | 9 => ("OilRound$House", "down", "I", false)
  | 10 => ("OilRound$House", "fills", "I", false)
  | 11 => ("OilRound$House", "note", "I", false)
  | 12 => ("OilRound$House", "everNoted", "Z", false)
  | 13 => ("OilRound$House", "daysSince", "I", false)
  | _ => ("OilRound$House", "coldSince", "I", false)
def tyX1 : Nat → FieldType := fun k => match k with
  | 0 => .int
  | 1 => .int
  | 2 => .int
  | 3 => .object "OilRound$Plan"
  | 4 => .int
  | 5 => .int
  | 6 => .int
  | 7 => .int
  | 8 => .int
  | 9 => .int
  | 10 => .int
  | 11 => .int
  | 12 => .boolean
  | 13 => .int
  | _ => .int
theorem nmX1 : ∀ a, a < 15 → ∀ b, b < 15 → a ≠ b → (TX1 a).2.1 ≠ (TX1 b).2.1 := by decide +kernel
theorem tyX1_ok : ∀ k, k < 15 → parseFieldDescriptor (TX1 k).2.2.1 = some (tyX1 k) := by decide +kernel
abbrev cX1_init : ByteArray := prog_3_method_1_code
def yX1_init : MethodName := ⟨RX1, "<init>", "(III)V"⟩
abbrev cX1_low : ByteArray := prog_3_method_2_code
def yX1_low : MethodName := ⟨RX1, "low", "(I)I"⟩
abbrev cX1_high : ByteArray := prog_3_method_3_code
def yX1_high : MethodName := ⟨RX1, "high", "(I)I"⟩
abbrev cX1_endDay : ByteArray := prog_3_method_4_code
def yX1_endDay : MethodName := ⟨RX1, "endDay", "(I)V"⟩
abbrev cX1_isSafe : ByteArray := prog_3_method_5_code
def yX1_isSafe : MethodName := ⟨RX1, "isSafe", "()Z"⟩
abbrev cX1_isDue : ByteArray := prog_3_method_6_code
def yX1_isDue : MethodName := ⟨RX1, "isDue", "(II)Z"⟩
abbrev cX1_daysToGo : ByteArray := prog_3_method_7_code
def yX1_daysToGo : MethodName := ⟨RX1, "daysToGo", "(I)I"⟩
abbrev cX1_daysAboveZero : ByteArray := prog_3_method_8_code
def yX1_daysAboveZero : MethodName := ⟨RX1, "daysAboveZero", "(I)I"⟩
abbrev cX1_mayNeed : ByteArray := prog_3_method_9_code
def yX1_mayNeed : MethodName := ⟨RX1, "mayNeed", "()I"⟩
abbrev cX1_takeFill : ByteArray := prog_3_method_10_code
def yX1_takeFill : MethodName := ⟨RX1, "takeFill", "(I)V"⟩
abbrev cX1_noteOf : ByteArray := prog_3_method_11_code
def yX1_noteOf : MethodName := ⟨RX1, "noteOf", "(I)I"⟩
abbrev cX1_narrow : ByteArray := prog_3_method_12_code
def yX1_narrow : MethodName := ⟨RX1, "narrow", "(I)V"⟩
abbrev cX1_cut : ByteArray := prog_3_method_13_code
def yX1_cut : MethodName := ⟨RX1, "cut", "(II)I"⟩
abbrev cX1_roundedUp : ByteArray := prog_3_method_14_code
def yX1_roundedUp : MethodName := ⟨RX1, "roundedUp", "(II)I"⟩
abbrev cX1_isOf : ByteArray := prog_3_method_15_code
def yX1_isOf : MethodName := ⟨RX1, "isOf", "(I)Z"⟩
abbrev cX1_toldKind : ByteArray := prog_3_method_16_code
def yX1_toldKind : MethodName := ⟨RX1, "toldKind", "()I"⟩
abbrev cX1_isLeaky : ByteArray := prog_3_method_17_code
def yX1_isLeaky : MethodName := ⟨RX1, "isLeaky", "()Z"⟩
abbrev cX1_isSteady : ByteArray := prog_3_method_18_code
def yX1_isSteady : MethodName := ⟨RX1, "isSteady", "()Z"⟩
abbrev cX1_isKnown : ByteArray := prog_3_method_19_code
def yX1_isKnown : MethodName := ⟨RX1, "isKnown", "()Z"⟩
def RX2 : String := "OilRound$Plan"
def TX2 : u_T := fun k => match k with
  | 0 => ("OilRound$Plan", "way", "I", false)
  | 1 => ("OilRound$Plan", "litres", "I", false)
  | _ => ("OilRound$Plan", "ownPrice", "I", false)
def tyX2 : Nat → FieldType := fun k => match k with
  | 0 => .int
  | 1 => .int
  | _ => .int
theorem nmX2 : ∀ a, a < 3 → ∀ b, b < 3 → a ≠ b → (TX2 a).2.1 ≠ (TX2 b).2.1 := by decide +kernel
theorem tyX2_ok : ∀ k, k < 3 → parseFieldDescriptor (TX2 k).2.2.1 = some (tyX2 k) := by decide +kernel
abbrev cX2_init : ByteArray := prog_4_method_1_code
def yX2_init : MethodName := ⟨RX2, "<init>", "()V"⟩
abbrev cX2_become : ByteArray := prog_4_method_2_code
def yX2_become : MethodName := ⟨RX2, "become", "(III)V"⟩
abbrev cX2_costOf : ByteArray := prog_4_method_3_code
def yX2_costOf : MethodName := ⟨RX2, "costOf", "(II)I"⟩
abbrev cX2_useUp : ByteArray := prog_4_method_4_code
def yX2_useUp : MethodName := ⟨RX2, "useUp", "(I)V"⟩
abbrev cX2_ahead : ByteArray := prog_4_method_5_code
def yX2_ahead : MethodName := ⟨RX2, "ahead", "(I)I"⟩
def RX3 : String := "OilRound$PlanText"
def TX3 : u_T := fun k => match k with
  | 0 => ("OilRound$PlanText", "bytes", "[B", true)
  | 1 => ("OilRound$PlanText", "size", "I", false)
  | 2 => ("OilRound$PlanText", "latestFault", "I", false)
  | 3 => ("OilRound$PlanText", "next", "I", false)
  | 4 => ("OilRound$PlanText", "token", "I", false)
  | 5 => ("OilRound$PlanText", "start", "I", false)
  | 6 => ("OilRound$PlanText", "number", "I", false)
  | 7 => ("OilRound$PlanText", "state", "I", false)
  | 8 => ("OilRound$PlanText", "toldHouse", "LOilRound$House;", false)
  | 9 => ("OilRound$PlanText", "way", "I", false)
  | 10 => ("OilRound$PlanText", "litres", "I", false)
  | _ => ("OilRound$PlanText", "ownPrice", "I", false)
def tyX3 : Nat → FieldType := fun k => match k with
  | 0 => .array .byte
  | 1 => .int
  | 2 => .int
  | 3 => .int
  | 4 => .int
  | 5 => .int
  | 6 => .int
  | 7 => .int
  | 8 => .object "OilRound$House"
  | 9 => .int
  | 10 => .int
  | _ => .int
theorem nmX3 : ∀ a, a < 12 → ∀ b, b < 12 → a ≠ b → (TX3 a).2.1 ≠ (TX3 b).2.1 := by decide +kernel
theorem tyX3_ok : ∀ k, k < 12 → parseFieldDescriptor (TX3 k).2.2.1 = some (tyX3 k) := by decide +kernel
abbrev cX3_init : ByteArray := prog_5_method_1_code
def yX3_init : MethodName := ⟨RX3, "<init>", "()V"⟩
abbrev cX3_append : ByteArray := prog_5_method_2_code
def yX3_append : MethodName := ⟨RX3, "append", "(JI)I"⟩
abbrev cX3_readAll : ByteArray := prog_5_method_3_code
def yX3_readAll : MethodName := ⟨RX3, "readAll", "([LOilRound$House;)I"⟩
abbrev cX3_readOnce : ByteArray := prog_5_method_4_code
def yX3_readOnce : MethodName := ⟨RX3, "readOnce", "([LOilRound$House;Z)I"⟩
abbrev cX3_takeToken : ByteArray := prog_5_method_5_code
def yX3_takeToken : MethodName := ⟨RX3, "takeToken", "([LOilRound$House;)I"⟩
abbrev cX3_canStandHere : ByteArray := prog_5_method_6_code
def yX3_canStandHere : MethodName := ⟨RX3, "canStandHere", "()Z"⟩
abbrev cX3_takeWay : ByteArray := prog_5_method_7_code
def yX3_takeWay : MethodName := ⟨RX3, "takeWay", "()V"⟩
abbrev cX3_readToken : ByteArray := prog_5_method_8_code
def yX3_readToken : MethodName := ⟨RX3, "readToken", "()V"⟩
abbrev cX3_nameToken : ByteArray := prog_5_method_9_code
def yX3_nameToken : MethodName := ⟨RX3, "nameToken", "()I"⟩
abbrev cX3_isName : ByteArray := prog_5_method_10_code
def yX3_isName : MethodName := ⟨RX3, "isName", "(Ljava/lang/String;)Z"⟩
abbrev cX3_numberToken : ByteArray := prog_5_method_11_code
def yX3_numberToken : MethodName := ⟨RX3, "numberToken", "()I"⟩
abbrev cX3_isLetter : ByteArray := prog_5_method_12_code
def yX3_isLetter : MethodName := ⟨RX3, "isLetter", "(I)Z"⟩
abbrev cX3_isFigure : ByteArray := prog_5_method_13_code
def yX3_isFigure : MethodName := ⟨RX3, "isFigure", "(I)Z"⟩
abbrev cX3_byteAt : ByteArray := prog_5_method_14_code
def yX3_byteAt : MethodName := ⟨RX3, "byteAt", "(I)I"⟩
def RX4 : String := "OilRound$Route"
def TX4 : u_T := fun k => match k with
  | 0 => ("OilRound$Route", "numbers", "[I", true)
  | 1 => ("OilRound$Route", "xs", "[I", true)
  | 2 => ("OilRound$Route", "ys", "[I", true)
  | 3 => ("OilRound$Route", "order", "[I", true)
  | 4 => ("OilRound$Route", "least", "[I", true)
  | 5 => ("OilRound$Route", "keptSet", "I", false)
  | _ => ("OilRound$Route", "size", "I", false)
def tyX4 : Nat → FieldType := fun k => match k with
  | 0 => .array .int
  | 1 => .array .int
  | 2 => .array .int
  | 3 => .array .int
  | 4 => .array .int
  | 5 => .int
  | _ => .int
theorem nmX4 : ∀ a, a < 7 → ∀ b, b < 7 → a ≠ b → (TX4 a).2.1 ≠ (TX4 b).2.1 := by decide +kernel
theorem tyX4_ok : ∀ k, k < 7 → parseFieldDescriptor (TX4 k).2.2.1 = some (tyX4 k) := by decide +kernel
abbrev cX4_init : ByteArray := prog_6_method_1_code
def yX4_init : MethodName := ⟨RX4, "<init>", "()V"⟩
abbrev cX4_way : ByteArray := prog_6_method_2_code
def yX4_way : MethodName := ⟨RX4, "way", "()I"⟩
abbrev cX4_houseOn : ByteArray := prog_6_method_3_code
def yX4_houseOn : MethodName := ⟨RX4, "houseOn", "(I)I"⟩
abbrev cX4_prepare : ByteArray := prog_6_method_4_code
def yX4_prepare : MethodName := ⟨RX4, "prepare", "(I[LOilRound$House;)V"⟩
abbrev cX4_gather : ByteArray := prog_6_method_5_code
def yX4_gather : MethodName := ⟨RX4, "gather", "(I[LOilRound$House;)V"⟩
abbrev cX4_measure : ByteArray := prog_6_method_6_code
def yX4_measure : MethodName := ⟨RX4, "measure", "(II)V"⟩
abbrev cX4_arrange : ByteArray := prog_6_method_7_code
def yX4_arrange : MethodName := ⟨RX4, "arrange", "()V"⟩
abbrev cX4_firstNext : ByteArray := prog_6_method_8_code
def yX4_firstNext : MethodName := ⟨RX4, "firstNext", "(II)I"⟩
abbrev cX4_wayBy : ByteArray := prog_6_method_9_code
def yX4_wayBy : MethodName := ⟨RX4, "wayBy", "(III)I"⟩
abbrev cX4_leastAt : ByteArray := prog_6_method_10_code
def yX4_leastAt : MethodName := ⟨RX4, "leastAt", "(II)I"⟩
abbrev cX4_between : ByteArray := prog_6_method_11_code
def yX4_between : MethodName := ⟨RX4, "between", "(II)I"⟩
def RX5 : String := "OilRound"
def TX5 : u_T := fun k => match k with
  | 0 => ("OilRound", "houses", "[LOilRound$House;", true)
  | 1 => ("OilRound", "route", "LOilRound$Route;", true)
  | 2 => ("OilRound", "text", "LOilRound$PlanText;", true)
  | 3 => ("OilRound", "asks", "LOilRound$Asks;", true)
  | 4 => ("OilRound", "houseCount", "I", false)
  | 5 => ("OilRound", "daysGone", "I", false)
  | 6 => ("OilRound", "lookDays", "I", false)
  | 7 => ("OilRound", "lookCold", "I", false)
  | 8 => ("OilRound", "lorryHolds", "I", false)
  | 9 => ("OilRound", "dayPrice", "I", false)
  | 10 => ("OilRound", "inDepot", "I", false)
  | 11 => ("OilRound", "litresCome", "J", false)
  | 12 => ("OilRound", "litresFilled", "J", false)
  | _ => ("OilRound", "allPaid", "J", false)
def tyX5 : Nat → FieldType := fun k => match k with
  | 0 => .array (.object "OilRound$House")
  | 1 => .object "OilRound$Route"
  | 2 => .object "OilRound$PlanText"
  | 3 => .object "OilRound$Asks"
  | 4 => .int
  | 5 => .int
  | 6 => .int
  | 7 => .int
  | 8 => .int
  | 9 => .int
  | 10 => .int
  | 11 => .long
  | 12 => .long
  | _ => .long
theorem nmX5 : ∀ a, a < 14 → ∀ b, b < 14 → a ≠ b → (TX5 a).2.1 ≠ (TX5 b).2.1 := by decide +kernel
theorem tyX5_ok : ∀ k, k < 14 → parseFieldDescriptor (TX5 k).2.2.1 = some (tyX5 k) := by decide +kernel
abbrev cX5_init : ByteArray := prog_1_method_1_code
def yX5_init : MethodName := ⟨RX5, "<init>", "()V"⟩
abbrev cX5_house : ByteArray := prog_1_method_2_code
def yX5_house : MethodName := ⟨RX5, "house", "(III)I"⟩
abbrev cX5_prior : ByteArray := prog_1_method_3_code
def yX5_prior : MethodName := ⟨RX5, "prior", "(IIIII)I"⟩
abbrev cX5_day : ByteArray := prog_1_method_4_code
def yX5_day : MethodName := ⟨RX5, "day", "(I)I"⟩
abbrev cX5_look : ByteArray := prog_1_method_5_code
def yX5_look : MethodName := ⟨RX5, "look", "(II)I"⟩
abbrev cX5_told : ByteArray := prog_1_method_6_code
def yX5_told : MethodName := ⟨RX5, "told", "(II)I"⟩
abbrev cX5_lasts : ByteArray := prog_1_method_7_code
def yX5_lasts : MethodName := ⟨RX5, "lasts", "(II)I"⟩
abbrev cX5_stock : ByteArray := prog_1_method_8_code
def yX5_stock : MethodName := ⟨RX5, "stock", "(I)I"⟩
abbrev cX5_lorry : ByteArray := prog_1_method_9_code
def yX5_lorry : MethodName := ⟨RX5, "lorry", "(I)I"⟩
abbrev cX5_calls : ByteArray := prog_1_method_10_code
def yX5_calls : MethodName := ⟨RX5, "calls", "()I"⟩
abbrev cX5_round : ByteArray := prog_1_method_11_code
def yX5_round : MethodName := ⟨RX5, "round", "(II)I"⟩
abbrev cX5_stop : ByteArray := prog_1_method_12_code
def yX5_stop : MethodName := ⟨RX5, "stop", "(II)I"⟩
abbrev cX5_fill : ByteArray := prog_1_method_13_code
def yX5_fill : MethodName := ⟨RX5, "fill", "(II)I"⟩
abbrev cX5_price : ByteArray := prog_1_method_14_code
def yX5_price : MethodName := ⟨RX5, "price", "(I)I"⟩
abbrev cX5_feed : ByteArray := prog_1_method_15_code
def yX5_feed : MethodName := ⟨RX5, "feed", "(JI)I"⟩
abbrev cX5_plans : ByteArray := prog_1_method_16_code
def yX5_plans : MethodName := ⟨RX5, "plans", "()I"⟩
abbrev cX5_fault : ByteArray := prog_1_method_17_code
def yX5_fault : MethodName := ⟨RX5, "fault", "()I"⟩
abbrev cX5_quote : ByteArray := prog_1_method_18_code
def yX5_quote : MethodName := ⟨RX5, "quote", "(II)I"⟩
abbrev cX5_kind : ByteArray := prog_1_method_19_code
def yX5_kind : MethodName := ⟨RX5, "kind", "(I)I"⟩
abbrev cX5_as : ByteArray := prog_1_method_20_code
def yX5_as : MethodName := ⟨RX5, "as", "(II)I"⟩
abbrev cX5_ask : ByteArray := prog_1_method_21_code
def yX5_ask : MethodName := ⟨RX5, "ask", "(II)I"⟩
abbrev cX5_trace : ByteArray := prog_1_method_22_code
def yX5_trace : MethodName := ⟨RX5, "trace", "(I)I"⟩
abbrev cX5_count : ByteArray := prog_1_method_23_code
def yX5_count : MethodName := ⟨RX5, "count", "(I)J"⟩
abbrev cX5_isOutside : ByteArray := prog_1_method_24_code
def yX5_isOutside : MethodName := ⟨RX5, "isOutside", "(III)Z"⟩
abbrev cX5_houseIn : ByteArray := prog_1_method_25_code
def yX5_houseIn : MethodName := ⟨RX5, "houseIn", "([LOilRound$House;I)LOilRound$House;"⟩
abbrev cX5_houseAt : ByteArray := prog_1_method_26_code
def yX5_houseAt : MethodName := ⟨RX5, "houseAt", "(I)LOilRound$House;"⟩
abbrev cX5_countDue : ByteArray := prog_1_method_27_code
def yX5_countDue : MethodName := ⟨RX5, "countDue", "()I"⟩
abbrev cX5_mostUrgent : ByteArray := prog_1_method_28_code
def yX5_mostUrgent : MethodName := ⟨RX5, "mostUrgent", "(I)I"⟩
abbrev cX5_isNoRound : ByteArray := prog_1_method_29_code
def yX5_isNoRound : MethodName := ⟨RX5, "isNoRound", "(I)Z"⟩
abbrev cX5_needOf : ByteArray := prog_1_method_30_code
def yX5_needOf : MethodName := ⟨RX5, "needOf", "(I)I"⟩
def RX6 : String := "OilRoundModel"
def TX6 : u_T := fun k => match k with
  | 0 => ("OilRoundModel", "thrown", "I", false)
  | 1 => ("OilRoundModel", "houses", "I", false)
  | 2 => ("OilRoundModel", "px", "[I", true)
  | 3 => ("OilRoundModel", "py", "[I", true)
  | 4 => ("OilRoundModel", "holds", "[I", true)
  | 5 => ("OilRoundModel", "prior", "[I", true)
  | 6 => ("OilRoundModel", "up", "[I", true)
  | 7 => ("OilRoundModel", "down", "[I", true)
  | 8 => ("OilRoundModel", "fills", "[I", true)
  | 9 => ("OilRoundModel", "noted", "[I", true)
  | 10 => ("OilRoundModel", "wasNoted", "[Z", true)
  | 11 => ("OilRoundModel", "days", "[I", true)
  | 12 => ("OilRoundModel", "colds", "[I", true)
  | 13 => ("OilRoundModel", "plan", "[I", true)
  | 14 => ("OilRoundModel", "planMany", "[I", true)
  | 15 => ("OilRoundModel", "planPrice", "[I", true)
  | 16 => ("OilRoundModel", "day", "I", false)
  | 17 => ("OilRoundModel", "ahead", "I", false)
  | 18 => ("OilRoundModel", "aheadCold", "I", false)
  | 19 => ("OilRoundModel", "stock", "I", false)
  | 20 => ("OilRoundModel", "lorry", "I", false)
  | 21 => ("OilRoundModel", "price", "I", false)
  | 22 => ("OilRoundModel", "came", "J", false)
  | 23 => ("OilRoundModel", "filled", "J", false)
  | 24 => ("OilRoundModel", "paid", "J", false)
  | 25 => ("OilRoundModel", "own", "[I", true)
  | 26 => ("OilRoundModel", "many", "I", false)
  | 27 => ("OilRoundModel", "least", "[I", true)
  | 28 => ("OilRoundModel", "tape", "[I", true)
  | 29 => ("OilRoundModel", "taped", "I", false)
  | 30 => ("OilRoundModel", "latest", "I", false)
  | 31 => ("OilRoundModel", "sizeOf", "I", false)
  | 32 => ("OilRoundModel", "at", "I", false)
  | 33 => ("OilRoundModel", "sort", "I", false)
  | 34 => ("OilRoundModel", "place", "I", false)
  | 35 => ("OilRoundModel", "end", "I", false)
  | 36 => ("OilRoundModel", "fault", "I", false)
  | 37 => ("OilRoundModel", "faultAt", "I", false)
  | 38 => ("OilRoundModel", "told", "I", false)
  | 39 => ("OilRoundModel", "toldHouse", "[I", true)
  | 40 => ("OilRoundModel", "toldPlan", "[I", true)
  | 41 => ("OilRoundModel", "toldMany", "[I", true)
  | 42 => ("OilRoundModel", "toldPrice", "[I", true)
  | 43 => ("OilRoundModel", "trace", "[I", true)
  | _ => ("OilRoundModel", "traced", "I", false)
def tyX6 : Nat → FieldType := fun k => match k with
  | 0 => .int
  | 1 => .int
  | 2 => .array .int
  | 3 => .array .int
  | 4 => .array .int
  | 5 => .array .int
  | 6 => .array .int
  | 7 => .array .int
  | 8 => .array .int
  | 9 => .array .int
  | 10 => .array .boolean
  | 11 => .array .int
  | 12 => .array .int
  | 13 => .array .int
  | 14 => .array .int
  | 15 => .array .int
  | 16 => .int
  | 17 => .int
  | 18 => .int
  | 19 => .int
  | 20 => .int
  | 21 => .int
  | 22 => .long
  | 23 => .long
  | 24 => .long
  | 25 => .array .int
  | 26 => .int
  | 27 => .array .int
  | 28 => .array .int
  | 29 => .int
  | 30 => .int
  | 31 => .int
  | 32 => .int
  | 33 => .int
  | 34 => .int
  | 35 => .int
  | 36 => .int
  | 37 => .int
  | 38 => .int
  | 39 => .array .int
  | 40 => .array .int
  | 41 => .array .int
  | 42 => .array .int
  | 43 => .array .int
  | _ => .int
theorem nmX6 : ∀ a, a < 45 → ∀ b, b < 45 → a ≠ b → (TX6 a).2.1 ≠ (TX6 b).2.1 := by decide +kernel
theorem tyX6_ok : ∀ k, k < 45 → parseFieldDescriptor (TX6 k).2.2.1 = some (tyX6 k) := by decide +kernel
abbrev cX6_init : ByteArray := prog_8_method_1_code
def yX6_init : MethodName := ⟨RX6, "<init>", "()V"⟩
abbrev cX6_in : ByteArray := prog_8_method_3_code
def yX6_in : MethodName := ⟨RX6, "in", "(JJJ)Z"⟩
abbrev cX6_isHouse : ByteArray := prog_8_method_4_code
def yX6_isHouse : MethodName := ⟨RX6, "isHouse", "(I)Z"⟩
abbrev cX6_house : ByteArray := prog_8_method_5_code
def yX6_house : MethodName := ⟨RX6, "house", "(III)I"⟩
abbrev cX6_prior : ByteArray := prog_8_method_6_code
def yX6_prior : MethodName := ⟨RX6, "prior", "(IIIII)I"⟩
abbrev cX6_lowOf : ByteArray := prog_8_method_7_code
def yX6_lowOf : MethodName := ⟨RX6, "lowOf", "(II)I"⟩
abbrev cX6_highOf : ByteArray := prog_8_method_8_code
def yX6_highOf : MethodName := ⟨RX6, "highOf", "(II)I"⟩
abbrev cX6_day : ByteArray := prog_8_method_9_code
def yX6_day : MethodName := ⟨RX6, "day", "(I)I"⟩
abbrev cX6_isDue : ByteArray := prog_8_method_10_code
def yX6_isDue : MethodName := ⟨RX6, "isDue", "(I)Z"⟩
abbrev cX6_due : ByteArray := prog_8_method_11_code
def yX6_due : MethodName := ⟨RX6, "due", "()I"⟩
abbrev cX6_look : ByteArray := prog_8_method_12_code
def yX6_look : MethodName := ⟨RX6, "look", "(II)I"⟩
abbrev cX6_told : ByteArray := prog_8_method_13_code
def yX6_told : MethodName := ⟨RX6, "told", "(II)I"⟩
abbrev cX6_lasts : ByteArray := prog_8_method_14_code
def yX6_lasts : MethodName := ⟨RX6, "lasts", "(II)I"⟩
abbrev cX6_stock : ByteArray := prog_8_method_15_code
def yX6_stock : MethodName := ⟨RX6, "stock", "(I)I"⟩
abbrev cX6_lorry : ByteArray := prog_8_method_16_code
def yX6_lorry : MethodName := ⟨RX6, "lorry", "(I)I"⟩
abbrev cX6_canGo : ByteArray := prog_8_method_17_code
def yX6_canGo : MethodName := ⟨RX6, "canGo", "(I)I"⟩
abbrev cX6_calls : ByteArray := prog_8_method_18_code
def yX6_calls : MethodName := ⟨RX6, "calls", "()I"⟩
abbrev cX6_isSet : ByteArray := prog_8_method_19_code
def yX6_isSet : MethodName := ⟨RX6, "isSet", "(I)Z"⟩
abbrev cX6_size : ByteArray := prog_8_method_20_code
def yX6_size : MethodName := ⟨RX6, "size", "(I)I"⟩
abbrev cX6_fromDepot : ByteArray := prog_8_method_21_code
def yX6_fromDepot : MethodName := ⟨RX6, "fromDepot", "(I)I"⟩
abbrev cX6_between : ByteArray := prog_8_method_22_code
def yX6_between : MethodName := ⟨RX6, "between", "(II)I"⟩
abbrev cX6_findWays : ByteArray := prog_8_method_23_code
def yX6_findWays : MethodName := ⟨RX6, "findWays", "()V"⟩
abbrev cX6_nextOf : ByteArray := prog_8_method_24_code
def yX6_nextOf : MethodName := ⟨RX6, "nextOf", "(II)I"⟩
abbrev cX6_round : ByteArray := prog_8_method_25_code
def yX6_round : MethodName := ⟨RX6, "round", "(II)I"⟩
abbrev cX6_stop : ByteArray := prog_8_method_26_code
def yX6_stop : MethodName := ⟨RX6, "stop", "(II)I"⟩
abbrev cX6_most : ByteArray := prog_8_method_27_code
def yX6_most : MethodName := ⟨RX6, "most", "(II)I"⟩
abbrev cX6_least : ByteArray := prog_8_method_28_code
def yX6_least : MethodName := ⟨RX6, "least", "(II)I"⟩
abbrev cX6_roundedUp : ByteArray := prog_8_method_29_code
def yX6_roundedUp : MethodName := ⟨RX6, "roundedUp", "(II)I"⟩
abbrev cX6_cut : ByteArray := prog_8_method_30_code
def yX6_cut : MethodName := ⟨RX6, "cut", "(II)I"⟩
abbrev cX6_makeNarrower : ByteArray := prog_8_method_31_code
def yX6_makeNarrower : MethodName := ⟨RX6, "makeNarrower", "(II)V"⟩
abbrev cX6_cost : ByteArray := prog_8_method_32_code
def yX6_cost : MethodName := ⟨RX6, "cost", "(II)I"⟩
abbrev cX6_fill : ByteArray := prog_8_method_33_code
def yX6_fill : MethodName := ⟨RX6, "fill", "(II)I"⟩
abbrev cX6_price : ByteArray := prog_8_method_34_code
def yX6_price : MethodName := ⟨RX6, "price", "(I)I"⟩
abbrev cX6_quote : ByteArray := prog_8_method_35_code
def yX6_quote : MethodName := ⟨RX6, "quote", "(II)I"⟩
abbrev cX6_feed : ByteArray := prog_8_method_36_code
def yX6_feed : MethodName := ⟨RX6, "feed", "(JI)I"⟩
abbrev cX6_byteAt : ByteArray := prog_8_method_37_code
def yX6_byteAt : MethodName := ⟨RX6, "byteAt", "(I)I"⟩
abbrev cX6_isLetter : ByteArray := prog_8_method_38_code
def yX6_isLetter : MethodName := ⟨RX6, "isLetter", "(I)Z"⟩
abbrev cX6_isFigure : ByteArray := prog_8_method_39_code
def yX6_isFigure : MethodName := ⟨RX6, "isFigure", "(I)Z"⟩
abbrev cX6_step : ByteArray := prog_8_method_40_code
def yX6_step : MethodName := ⟨RX6, "step", "()V"⟩
abbrev cX6_bad : ByteArray := prog_8_method_41_code
def yX6_bad : MethodName := ⟨RX6, "bad", "(I)V"⟩
abbrev cX6_take : ByteArray := prog_8_method_42_code
def yX6_take : MethodName := ⟨RX6, "take", "(Z)V"⟩
abbrev cX6_is : ByteArray := prog_8_method_43_code
def yX6_is : MethodName := ⟨RX6, "is", "(I)Z"⟩
abbrev cX6_name : ByteArray := prog_8_method_44_code
def yX6_name : MethodName := ⟨RX6, "name", "()J"⟩
abbrev cX6_number : ByteArray := prog_8_method_45_code
def yX6_number : MethodName := ⟨RX6, "number", "()I"⟩
abbrev cX6_readOne : ByteArray := prog_8_method_46_code
def yX6_readOne : MethodName := ⟨RX6, "readOne", "()V"⟩
abbrev cX6_plans : ByteArray := prog_8_method_47_code
def yX6_plans : MethodName := ⟨RX6, "plans", "()I"⟩
abbrev cX6_fault : ByteArray := prog_8_method_48_code
def yX6_fault : MethodName := ⟨RX6, "fault", "()I"⟩
abbrev cX6_kindOf : ByteArray := prog_8_method_49_code
def yX6_kindOf : MethodName := ⟨RX6, "kindOf", "(I)I"⟩
abbrev cX6_kind : ByteArray := prog_8_method_50_code
def yX6_kind : MethodName := ⟨RX6, "kind", "(I)I"⟩
abbrev cX6_as : ByteArray := prog_8_method_51_code
def yX6_as : MethodName := ⟨RX6, "as", "(II)I"⟩
abbrev cX6_began : ByteArray := prog_8_method_52_code
def yX6_began : MethodName := ⟨RX6, "began", "(I)V"⟩
abbrev cX6_weight : ByteArray := prog_8_method_53_code
def yX6_weight : MethodName := ⟨RX6, "weight", "(I)I"⟩
abbrev cX6_marked : ByteArray := prog_8_method_54_code
def yX6_marked : MethodName := ⟨RX6, "marked", "(I)I"⟩
abbrev cX6_ask : ByteArray := prog_8_method_55_code
def yX6_ask : MethodName := ⟨RX6, "ask", "(II)I"⟩
abbrev cX6_trace : ByteArray := prog_8_method_56_code
def yX6_trace : MethodName := ⟨RX6, "trace", "(I)I"⟩
abbrev cX6_count : ByteArray := prog_8_method_57_code
def yX6_count : MethodName := ⟨RX6, "count", "(I)J"⟩
def RJ6 : String := "java/lang/Integer"
def TJ6 : u_T := fun k => match k with
  | _ => ("", "", "", false)
def tyJ6 : Nat → FieldType := fun k => match k with
  | _ => .int
theorem nmJ6 : ∀ a, a < 0 → ∀ b, b < 0 → a ≠ b → (TJ6 a).2.1 ≠ (TJ6 b).2.1 := by decide +kernel
theorem tyJ6_ok : ∀ k, k < 0 → parseFieldDescriptor (TJ6 k).2.2.1 = some (tyJ6 k) := by decide +kernel
abbrev cJ6_bitCount_0f7a4 : ByteArray := prog_9_method_49_code
def yJ6_bitCount_0f7a4 : MethodName := ⟨RJ6, "bitCount", "(I)I"⟩
def RJ9 : String := "java/lang/Math"
def TJ9 : u_T := fun k => match k with
  | _ => ("", "", "", false)
def tyJ9 : Nat → FieldType := fun k => match k with
  | _ => .int
theorem nmJ9 : ∀ a, a < 0 → ∀ b, b < 0 → a ≠ b → (TJ9 a).2.1 ≠ (TJ9 b).2.1 := by decide +kernel
theorem tyJ9_ok : ∀ k, k < 0 → parseFieldDescriptor (TJ9 k).2.2.1 = some (tyJ9 k) := by decide +kernel
abbrev cJ9_floorDiv_7cf53 : ByteArray := prog_10_method_47_code
def yJ9_floorDiv_7cf53 : MethodName := ⟨RJ9, "floorDiv", "(II)I"⟩
abbrev cJ9_abs_0f7a4 : ByteArray := prog_10_method_59_code
def yJ9_abs_0f7a4 : MethodName := ⟨RJ9, "abs", "(I)I"⟩
abbrev cJ9_max_7cf53 : ByteArray := prog_10_method_65_code
def yJ9_max_7cf53 : MethodName := ⟨RJ9, "max", "(II)I"⟩
abbrev cJ9_min_7cf53 : ByteArray := prog_10_method_69_code
def yJ9_min_7cf53 : MethodName := ⟨RJ9, "min", "(II)I"⟩
def RJ0 : String := "java/lang/String"
def TJ0 : u_T := fun k => match k with
  | _ => ("", "", "", false)
def tyJ0 : Nat → FieldType := fun k => match k with
  | _ => .int
theorem nmJ0 : ∀ a, a < 0 → ∀ b, b < 0 → a ≠ b → (TJ0 a).2.1 ≠ (TJ0 b).2.1 := by decide +kernel
theorem tyJ0_ok : ∀ k, k < 0 → parseFieldDescriptor (TJ0 k).2.2.1 = some (tyJ0 k) := by decide +kernel
abbrev cJ0_length_8abf5 : ByteArray := prog_11_method_54_code
def yJ0_length_8abf5 : MethodName := ⟨RJ0, "length", "()I"⟩
abbrev cJ0_charAt_5068e : ByteArray := prog_11_method_56_code
def yJ0_charAt_5068e : MethodName := ⟨RJ0, "charAt", "(I)C"⟩
abbrev cJ0_coder_7d493 : ByteArray := prog_11_method_152_code
def yJ0_coder_7d493 : MethodName := ⟨RJ0, "coder", "()B"⟩
abbrev cJ0_isLatin1_aae02 : ByteArray := prog_11_method_154_code
def yJ0_isLatin1_aae02 : MethodName := ⟨RJ0, "isLatin1", "()Z"⟩
abbrev cJ0_checkIndex_df160 : ByteArray := prog_11_method_155_code
def yJ0_checkIndex_df160 : MethodName := ⟨RJ0, "checkIndex", "(II)V"⟩
def RJ1 : String := "java/lang/StringLatin1"
def TJ1 : u_T := fun k => match k with
  | _ => ("", "", "", false)
def tyJ1 : Nat → FieldType := fun k => match k with
  | _ => .int
theorem nmJ1 : ∀ a, a < 0 → ∀ b, b < 0 → a ≠ b → (TJ1 a).2.1 ≠ (TJ1 b).2.1 := by decide +kernel
theorem tyJ1_ok : ∀ k, k < 0 → parseFieldDescriptor (TJ1 k).2.2.1 = some (tyJ1 k) := by decide +kernel
abbrev cJ1_charAt_3b067 : ByteArray := prog_12_method_2_code
def yJ1_charAt_3b067 : MethodName := ⟨RJ1, "charAt", "([BI)C"⟩
def RJ2 : String := "java/lang/StringUTF16"
def TJ2 : u_T := fun k => match k with
  | _ => ("", "", "", false)
def tyJ2 : Nat → FieldType := fun k => match k with
  | _ => .int
theorem nmJ2 : ∀ a, a < 0 → ∀ b, b < 0 → a ≠ b → (TJ2 a).2.1 ≠ (TJ2 b).2.1 := by decide +kernel
theorem tyJ2_ok : ∀ k, k < 0 → parseFieldDescriptor (TJ2 k).2.2.1 = some (tyJ2 k) := by decide +kernel
abbrev cJ2_getChar_3b067 : ByteArray := prog_13_method_5_code
def yJ2_getChar_3b067 : MethodName := ⟨RJ2, "getChar", "([BI)C"⟩
abbrev cJ2_length_9d52b : ByteArray := prog_13_method_6_code
def yJ2_length_9d52b : MethodName := ⟨RJ2, "length", "([B)I"⟩
abbrev cJ2_charAt_3b067 : ByteArray := prog_13_method_83_code
def yJ2_charAt_3b067 : MethodName := ⟨RJ2, "charAt", "([BI)C"⟩
abbrev cJ2_checkIndex_2214a : ByteArray := prog_13_method_91_code
def yJ2_checkIndex_2214a : MethodName := ⟨RJ2, "checkIndex", "(I[B)V"⟩
def RJ3 : String := "jdk/internal/util/Preconditions"
def TJ3 : u_T := fun k => match k with
  | _ => ("", "", "", false)
def tyJ3 : Nat → FieldType := fun k => match k with
  | _ => .int
theorem nmJ3 : ∀ a, a < 0 → ∀ b, b < 0 → a ≠ b → (TJ3 a).2.1 ≠ (TJ3 b).2.1 := by decide +kernel
theorem tyJ3_ok : ∀ k, k < 0 → parseFieldDescriptor (TJ3 k).2.2.1 = some (tyJ3 k) := by decide +kernel
abbrev cJ3_checkIndex_8e157 : ByteArray := prog_14_method_11_code
def yJ3_checkIndex_8e157 : MethodName := ⟨RJ3, "checkIndex", "(IILjava/util/function/BiFunction;)I"⟩
def RL : String := "OilRoundLaw"
abbrev cL_law : ByteArray := code
def yL_law : MethodName := ⟨RL, "law", "([I)Z"⟩
abbrev vwCl : List vw_C := [(RX0, TX0, 2), (RX1, TX1, 15), (RX2, TX2, 3), (RX3, TX3, 12), (RX4, TX4, 7), (RX5, TX5, 14), (RX6, TX6, 45)]
