section
-- ===== PART A: goes FIRST, ahead of the names: the tables' words, and 'selects' of the private methods out of them =====
/-- a private method of a class that the tables say can be made, by its rows of tables_1 -/
def lw_okq (q : MethodName × Nat) : Prop := (q.1.cls ≠ "java/lang/invoke/MethodHandle" ∧ q.1.cls ≠ "java/lang/invoke/VarHandle") ∧ Cond.instantiable q.1.cls q.2 ∈ tables_1 ∧ Cond.privateMethod q.1 ∈ tables_1 ∧ Cond.instanceMethod q.1 ∈ tables_1
theorem lw_p0 : lw_okq (⟨"OilRound", "houseAt", "(I)LOilRound$House;"⟩, 14) := ⟨⟨by decide +kernel, by decide +kernel⟩, List.mem_of_getElem? (i := 15) (by decide +kernel), List.mem_of_getElem? (i := 256) (by decide +kernel), List.mem_of_getElem? (i := 257) (by decide +kernel)⟩
theorem lw_p1 : lw_okq (⟨"OilRound$House", "low", "(I)I"⟩, 15) := ⟨⟨by decide +kernel, by decide +kernel⟩, List.mem_of_getElem? (i := 164) (by decide +kernel), List.mem_of_getElem? (i := 272) (by decide +kernel), List.mem_of_getElem? (i := 273) (by decide +kernel)⟩
theorem lw_p2 : lw_okq (⟨"OilRound$House", "high", "(I)I"⟩, 15) := ⟨⟨by decide +kernel, by decide +kernel⟩, List.mem_of_getElem? (i := 164) (by decide +kernel), List.mem_of_getElem? (i := 279) (by decide +kernel), List.mem_of_getElem? (i := 280) (by decide +kernel)⟩
theorem lw_p3 : lw_okq (⟨"OilRound", "countDue", "()I"⟩, 14) := ⟨⟨by decide +kernel, by decide +kernel⟩, List.mem_of_getElem? (i := 15) (by decide +kernel), List.mem_of_getElem? (i := 291) (by decide +kernel), List.mem_of_getElem? (i := 292) (by decide +kernel)⟩
theorem lw_p4 : lw_okq (⟨"OilRound", "mostUrgent", "(I)I"⟩, 14) := ⟨⟨by decide +kernel, by decide +kernel⟩, List.mem_of_getElem? (i := 15) (by decide +kernel), List.mem_of_getElem? (i := 333) (by decide +kernel), List.mem_of_getElem? (i := 334) (by decide +kernel)⟩
theorem lw_p5 : lw_okq (⟨"OilRound", "isNoRound", "(I)Z"⟩, 14) := ⟨⟨by decide +kernel, by decide +kernel⟩, List.mem_of_getElem? (i := 15) (by decide +kernel), List.mem_of_getElem? (i := 350) (by decide +kernel), List.mem_of_getElem? (i := 351) (by decide +kernel)⟩
theorem lw_p6 : lw_okq (⟨"OilRound", "needOf", "(I)I"⟩, 14) := ⟨⟨by decide +kernel, by decide +kernel⟩, List.mem_of_getElem? (i := 15) (by decide +kernel), List.mem_of_getElem? (i := 354) (by decide +kernel), List.mem_of_getElem? (i := 355) (by decide +kernel)⟩
theorem lw_p7 : lw_okq (⟨"OilRound$Route", "gather", "(I[LOilRound$House;)V"⟩, 7) := ⟨⟨by decide +kernel, by decide +kernel⟩, List.mem_of_getElem? (i := 25) (by decide +kernel), List.mem_of_getElem? (i := 362) (by decide +kernel), List.mem_of_getElem? (i := 363) (by decide +kernel)⟩
theorem lw_p8 : lw_okq (⟨"OilRound$Route", "measure", "(II)V"⟩, 7) := ⟨⟨by decide +kernel, by decide +kernel⟩, List.mem_of_getElem? (i := 25) (by decide +kernel), List.mem_of_getElem? (i := 367) (by decide +kernel), List.mem_of_getElem? (i := 368) (by decide +kernel)⟩
theorem lw_p9 : lw_okq (⟨"OilRound$Route", "between", "(II)I"⟩, 7) := ⟨⟨by decide +kernel, by decide +kernel⟩, List.mem_of_getElem? (i := 25) (by decide +kernel), List.mem_of_getElem? (i := 371) (by decide +kernel), List.mem_of_getElem? (i := 372) (by decide +kernel)⟩
theorem lw_p10 : lw_okq (⟨"OilRound$Route", "wayBy", "(III)I"⟩, 7) := ⟨⟨by decide +kernel, by decide +kernel⟩, List.mem_of_getElem? (i := 25) (by decide +kernel), List.mem_of_getElem? (i := 380) (by decide +kernel), List.mem_of_getElem? (i := 381) (by decide +kernel)⟩
theorem lw_p11 : lw_okq (⟨"OilRound$Route", "leastAt", "(II)I"⟩, 7) := ⟨⟨by decide +kernel, by decide +kernel⟩, List.mem_of_getElem? (i := 25) (by decide +kernel), List.mem_of_getElem? (i := 384) (by decide +kernel), List.mem_of_getElem? (i := 385) (by decide +kernel)⟩
theorem lw_p12 : lw_okq (⟨"OilRound$Route", "arrange", "()V"⟩, 7) := ⟨⟨by decide +kernel, by decide +kernel⟩, List.mem_of_getElem? (i := 25) (by decide +kernel), List.mem_of_getElem? (i := 389) (by decide +kernel), List.mem_of_getElem? (i := 390) (by decide +kernel)⟩
theorem lw_p13 : lw_okq (⟨"OilRound$Route", "firstNext", "(II)I"⟩, 7) := ⟨⟨by decide +kernel, by decide +kernel⟩, List.mem_of_getElem? (i := 25) (by decide +kernel), List.mem_of_getElem? (i := 393) (by decide +kernel), List.mem_of_getElem? (i := 394) (by decide +kernel)⟩
theorem lw_p14 : lw_okq (⟨"OilRound$Plan", "ahead", "(I)I"⟩, 3) := ⟨⟨by decide +kernel, by decide +kernel⟩, List.mem_of_getElem? (i := 170) (by decide +kernel), List.mem_of_getElem? (i := 419) (by decide +kernel), List.mem_of_getElem? (i := 420) (by decide +kernel)⟩
theorem lw_p15 : lw_okq (⟨"OilRound$House", "noteOf", "(I)I"⟩, 15) := ⟨⟨by decide +kernel, by decide +kernel⟩, List.mem_of_getElem? (i := 164) (by decide +kernel), List.mem_of_getElem? (i := 431) (by decide +kernel), List.mem_of_getElem? (i := 432) (by decide +kernel)⟩
def lw_privs_1 : List (MethodName × Nat) := [(⟨"OilRound", "houseAt", "(I)LOilRound$House;"⟩, 14), (⟨"OilRound$House", "low", "(I)I"⟩, 15), (⟨"OilRound$House", "high", "(I)I"⟩, 15), (⟨"OilRound", "countDue", "()I"⟩, 14), (⟨"OilRound", "mostUrgent", "(I)I"⟩, 14), (⟨"OilRound", "isNoRound", "(I)Z"⟩, 14), (⟨"OilRound", "needOf", "(I)I"⟩, 14), (⟨"OilRound$Route", "gather", "(I[LOilRound$House;)V"⟩, 7), (⟨"OilRound$Route", "measure", "(II)V"⟩, 7), (⟨"OilRound$Route", "between", "(II)I"⟩, 7), (⟨"OilRound$Route", "wayBy", "(III)I"⟩, 7), (⟨"OilRound$Route", "leastAt", "(II)I"⟩, 7), (⟨"OilRound$Route", "arrange", "()V"⟩, 7), (⟨"OilRound$Route", "firstNext", "(II)I"⟩, 7), (⟨"OilRound$Plan", "ahead", "(I)I"⟩, 3), (⟨"OilRound$House", "noteOf", "(I)I"⟩, 15)]
theorem lw_r1 : ∀ q ∈ lw_privs_1, lw_okq q := List.forall_mem_cons.mpr ⟨lw_p0, List.forall_mem_cons.mpr ⟨lw_p1, List.forall_mem_cons.mpr ⟨lw_p2, List.forall_mem_cons.mpr ⟨lw_p3, List.forall_mem_cons.mpr ⟨lw_p4, List.forall_mem_cons.mpr ⟨lw_p5, List.forall_mem_cons.mpr ⟨lw_p6, List.forall_mem_cons.mpr ⟨lw_p7, List.forall_mem_cons.mpr ⟨lw_p8, List.forall_mem_cons.mpr ⟨lw_p9, List.forall_mem_cons.mpr ⟨lw_p10, List.forall_mem_cons.mpr ⟨lw_p11, List.forall_mem_cons.mpr ⟨lw_p12, List.forall_mem_cons.mpr ⟨lw_p13, List.forall_mem_cons.mpr ⟨lw_p14, List.forall_mem_cons.mpr ⟨lw_p15, fun _ h => absurd h List.not_mem_nil⟩⟩⟩⟩⟩⟩⟩⟩⟩⟩⟩⟩⟩⟩⟩⟩
theorem lw_p16 : lw_okq (⟨"OilRound$House", "narrow", "(I)V"⟩, 15) := ⟨⟨by decide +kernel, by decide +kernel⟩, List.mem_of_getElem? (i := 164) (by decide +kernel), List.mem_of_getElem? (i := 435) (by decide +kernel), List.mem_of_getElem? (i := 436) (by decide +kernel)⟩
theorem lw_p17 : lw_okq (⟨"OilRound$PlanText", "readOnce", "([LOilRound$House;Z)I"⟩, 12) := ⟨⟨by decide +kernel, by decide +kernel⟩, List.mem_of_getElem? (i := 54) (by decide +kernel), List.mem_of_getElem? (i := 469) (by decide +kernel), List.mem_of_getElem? (i := 470) (by decide +kernel)⟩
theorem lw_p18 : lw_okq (⟨"OilRound$PlanText", "readToken", "()V"⟩, 12) := ⟨⟨by decide +kernel, by decide +kernel⟩, List.mem_of_getElem? (i := 54) (by decide +kernel), List.mem_of_getElem? (i := 473) (by decide +kernel), List.mem_of_getElem? (i := 474) (by decide +kernel)⟩
theorem lw_p19 : lw_okq (⟨"OilRound$PlanText", "byteAt", "(I)I"⟩, 12) := ⟨⟨by decide +kernel, by decide +kernel⟩, List.mem_of_getElem? (i := 54) (by decide +kernel), List.mem_of_getElem? (i := 477) (by decide +kernel), List.mem_of_getElem? (i := 478) (by decide +kernel)⟩
theorem lw_p20 : lw_okq (⟨"OilRound$PlanText", "nameToken", "()I"⟩, 12) := ⟨⟨by decide +kernel, by decide +kernel⟩, List.mem_of_getElem? (i := 54) (by decide +kernel), List.mem_of_getElem? (i := 484) (by decide +kernel), List.mem_of_getElem? (i := 485) (by decide +kernel)⟩
theorem lw_p21 : lw_okq (⟨"OilRound$PlanText", "isName", "(Ljava/lang/String;)Z"⟩, 12) := ⟨⟨by decide +kernel, by decide +kernel⟩, List.mem_of_getElem? (i := 54) (by decide +kernel), List.mem_of_getElem? (i := 489) (by decide +kernel), List.mem_of_getElem? (i := 490) (by decide +kernel)⟩
theorem lw_p22 : lw_okq (⟨"OilRound$PlanText", "numberToken", "()I"⟩, 12) := ⟨⟨by decide +kernel, by decide +kernel⟩, List.mem_of_getElem? (i := 54) (by decide +kernel), List.mem_of_getElem? (i := 547) (by decide +kernel), List.mem_of_getElem? (i := 548) (by decide +kernel)⟩
theorem lw_p23 : lw_okq (⟨"OilRound$PlanText", "takeToken", "([LOilRound$House;)I"⟩, 12) := ⟨⟨by decide +kernel, by decide +kernel⟩, List.mem_of_getElem? (i := 54) (by decide +kernel), List.mem_of_getElem? (i := 551) (by decide +kernel), List.mem_of_getElem? (i := 552) (by decide +kernel)⟩
theorem lw_p24 : lw_okq (⟨"OilRound$PlanText", "canStandHere", "()Z"⟩, 12) := ⟨⟨by decide +kernel, by decide +kernel⟩, List.mem_of_getElem? (i := 54) (by decide +kernel), List.mem_of_getElem? (i := 555) (by decide +kernel), List.mem_of_getElem? (i := 556) (by decide +kernel)⟩
theorem lw_p25 : lw_okq (⟨"OilRound$PlanText", "takeWay", "()V"⟩, 12) := ⟨⟨by decide +kernel, by decide +kernel⟩, List.mem_of_getElem? (i := 54) (by decide +kernel), List.mem_of_getElem? (i := 560) (by decide +kernel), List.mem_of_getElem? (i := 561) (by decide +kernel)⟩
theorem lw_p26 : lw_okq (⟨"OilRound$House", "isLeaky", "()Z"⟩, 15) := ⟨⟨by decide +kernel, by decide +kernel⟩, List.mem_of_getElem? (i := 164) (by decide +kernel), List.mem_of_getElem? (i := 585) (by decide +kernel), List.mem_of_getElem? (i := 586) (by decide +kernel)⟩
theorem lw_p27 : lw_okq (⟨"OilRound$House", "isSteady", "()Z"⟩, 15) := ⟨⟨by decide +kernel, by decide +kernel⟩, List.mem_of_getElem? (i := 164) (by decide +kernel), List.mem_of_getElem? (i := 589) (by decide +kernel), List.mem_of_getElem? (i := 590) (by decide +kernel)⟩
theorem lw_p28 : lw_okq (⟨"OilRound$House", "isKnown", "()Z"⟩, 15) := ⟨⟨by decide +kernel, by decide +kernel⟩, List.mem_of_getElem? (i := 164) (by decide +kernel), List.mem_of_getElem? (i := 593) (by decide +kernel), List.mem_of_getElem? (i := 594) (by decide +kernel)⟩
theorem lw_p29 : lw_okq (⟨"OilRound$Asks", "leakyWeight", "(LOilRound$House;)I"⟩, 2) := ⟨⟨by decide +kernel, by decide +kernel⟩, List.mem_of_getElem? (i := 100) (by decide +kernel), List.mem_of_getElem? (i := 619) (by decide +kernel), List.mem_of_getElem? (i := 620) (by decide +kernel)⟩
theorem lw_p30 : lw_okq (⟨"OilRound$Asks", "begin", "(I)V"⟩, 2) := ⟨⟨by decide +kernel, by decide +kernel⟩, List.mem_of_getElem? (i := 100) (by decide +kernel), List.mem_of_getElem? (i := 623) (by decide +kernel), List.mem_of_getElem? (i := 624) (by decide +kernel)⟩
theorem lw_p31 : lw_okq (⟨"OilRound$Asks", "lentWeight", "(LOilRound$House;)I"⟩, 2) := ⟨⟨by decide +kernel, by decide +kernel⟩, List.mem_of_getElem? (i := 100) (by decide +kernel), List.mem_of_getElem? (i := 627) (by decide +kernel), List.mem_of_getElem? (i := 628) (by decide +kernel)⟩
def lw_privs_2 : List (MethodName × Nat) := [(⟨"OilRound$House", "narrow", "(I)V"⟩, 15), (⟨"OilRound$PlanText", "readOnce", "([LOilRound$House;Z)I"⟩, 12), (⟨"OilRound$PlanText", "readToken", "()V"⟩, 12), (⟨"OilRound$PlanText", "byteAt", "(I)I"⟩, 12), (⟨"OilRound$PlanText", "nameToken", "()I"⟩, 12), (⟨"OilRound$PlanText", "isName", "(Ljava/lang/String;)Z"⟩, 12), (⟨"OilRound$PlanText", "numberToken", "()I"⟩, 12), (⟨"OilRound$PlanText", "takeToken", "([LOilRound$House;)I"⟩, 12), (⟨"OilRound$PlanText", "canStandHere", "()Z"⟩, 12), (⟨"OilRound$PlanText", "takeWay", "()V"⟩, 12), (⟨"OilRound$House", "isLeaky", "()Z"⟩, 15), (⟨"OilRound$House", "isSteady", "()Z"⟩, 15), (⟨"OilRound$House", "isKnown", "()Z"⟩, 15), (⟨"OilRound$Asks", "leakyWeight", "(LOilRound$House;)I"⟩, 2), (⟨"OilRound$Asks", "begin", "(I)V"⟩, 2), (⟨"OilRound$Asks", "lentWeight", "(LOilRound$House;)I"⟩, 2)]
theorem lw_r2 : ∀ q ∈ lw_privs_2, lw_okq q := List.forall_mem_cons.mpr ⟨lw_p16, List.forall_mem_cons.mpr ⟨lw_p17, List.forall_mem_cons.mpr ⟨lw_p18, List.forall_mem_cons.mpr ⟨lw_p19, List.forall_mem_cons.mpr ⟨lw_p20, List.forall_mem_cons.mpr ⟨lw_p21, List.forall_mem_cons.mpr ⟨lw_p22, List.forall_mem_cons.mpr ⟨lw_p23, List.forall_mem_cons.mpr ⟨lw_p24, List.forall_mem_cons.mpr ⟨lw_p25, List.forall_mem_cons.mpr ⟨lw_p26, List.forall_mem_cons.mpr ⟨lw_p27, List.forall_mem_cons.mpr ⟨lw_p28, List.forall_mem_cons.mpr ⟨lw_p29, List.forall_mem_cons.mpr ⟨lw_p30, List.forall_mem_cons.mpr ⟨lw_p31, fun _ h => absurd h List.not_mem_nil⟩⟩⟩⟩⟩⟩⟩⟩⟩⟩⟩⟩⟩⟩⟩⟩
theorem lw_p32 : lw_okq (⟨"OilRound$Asks", "steadyWeight", "(LOilRound$House;)I"⟩, 2) := ⟨⟨by decide +kernel, by decide +kernel⟩, List.mem_of_getElem? (i := 100) (by decide +kernel), List.mem_of_getElem? (i := 631) (by decide +kernel), List.mem_of_getElem? (i := 632) (by decide +kernel)⟩
theorem lw_p33 : lw_okq (⟨"OilRound$Asks", "knownWeight", "(LOilRound$House;)I"⟩, 2) := ⟨⟨by decide +kernel, by decide +kernel⟩, List.mem_of_getElem? (i := 100) (by decide +kernel), List.mem_of_getElem? (i := 635) (by decide +kernel), List.mem_of_getElem? (i := 636) (by decide +kernel)⟩
theorem lw_p34 : lw_okq (⟨"OilRound$Asks", "leakyMark", "(LOilRound$House;)I"⟩, 2) := ⟨⟨by decide +kernel, by decide +kernel⟩, List.mem_of_getElem? (i := 100) (by decide +kernel), List.mem_of_getElem? (i := 643) (by decide +kernel), List.mem_of_getElem? (i := 644) (by decide +kernel)⟩
theorem lw_p35 : lw_okq (⟨"OilRound$Asks", "lentMark", "(LOilRound$House;)I"⟩, 2) := ⟨⟨by decide +kernel, by decide +kernel⟩, List.mem_of_getElem? (i := 100) (by decide +kernel), List.mem_of_getElem? (i := 647) (by decide +kernel), List.mem_of_getElem? (i := 648) (by decide +kernel)⟩
theorem lw_p36 : lw_okq (⟨"OilRound$Asks", "knownMark", "(LOilRound$House;)I"⟩, 2) := ⟨⟨by decide +kernel, by decide +kernel⟩, List.mem_of_getElem? (i := 100) (by decide +kernel), List.mem_of_getElem? (i := 652) (by decide +kernel), List.mem_of_getElem? (i := 653) (by decide +kernel)⟩
theorem lw_p37 : lw_okq (⟨"OilRoundModel", "isHouse", "(I)Z"⟩, 45) := ⟨⟨by decide +kernel, by decide +kernel⟩, List.mem_of_getElem? (i := 670) (by decide +kernel), List.mem_of_getElem? (i := 829) (by decide +kernel), List.mem_of_getElem? (i := 830) (by decide +kernel)⟩
theorem lw_p38 : lw_okq (⟨"OilRoundModel", "lowOf", "(II)I"⟩, 45) := ⟨⟨by decide +kernel, by decide +kernel⟩, List.mem_of_getElem? (i := 670) (by decide +kernel), List.mem_of_getElem? (i := 839) (by decide +kernel), List.mem_of_getElem? (i := 840) (by decide +kernel)⟩
theorem lw_p39 : lw_okq (⟨"OilRoundModel", "highOf", "(II)I"⟩, 45) := ⟨⟨by decide +kernel, by decide +kernel⟩, List.mem_of_getElem? (i := 670) (by decide +kernel), List.mem_of_getElem? (i := 843) (by decide +kernel), List.mem_of_getElem? (i := 844) (by decide +kernel)⟩
theorem lw_p40 : lw_okq (⟨"OilRoundModel", "due", "()I"⟩, 45) := ⟨⟨by decide +kernel, by decide +kernel⟩, List.mem_of_getElem? (i := 670) (by decide +kernel), List.mem_of_getElem? (i := 852) (by decide +kernel), List.mem_of_getElem? (i := 853) (by decide +kernel)⟩
theorem lw_p41 : lw_okq (⟨"OilRoundModel", "isDue", "(I)Z"⟩, 45) := ⟨⟨by decide +kernel, by decide +kernel⟩, List.mem_of_getElem? (i := 670) (by decide +kernel), List.mem_of_getElem? (i := 856) (by decide +kernel), List.mem_of_getElem? (i := 857) (by decide +kernel)⟩
theorem lw_p42 : lw_okq (⟨"OilRoundModel", "canGo", "(I)I"⟩, 45) := ⟨⟨by decide +kernel, by decide +kernel⟩, List.mem_of_getElem? (i := 670) (by decide +kernel), List.mem_of_getElem? (i := 883) (by decide +kernel), List.mem_of_getElem? (i := 884) (by decide +kernel)⟩
theorem lw_p43 : lw_okq (⟨"OilRoundModel", "isSet", "(I)Z"⟩, 45) := ⟨⟨by decide +kernel, by decide +kernel⟩, List.mem_of_getElem? (i := 670) (by decide +kernel), List.mem_of_getElem? (i := 891) (by decide +kernel), List.mem_of_getElem? (i := 892) (by decide +kernel)⟩
theorem lw_p44 : lw_okq (⟨"OilRoundModel", "findWays", "()V"⟩, 45) := ⟨⟨by decide +kernel, by decide +kernel⟩, List.mem_of_getElem? (i := 670) (by decide +kernel), List.mem_of_getElem? (i := 896) (by decide +kernel), List.mem_of_getElem? (i := 897) (by decide +kernel)⟩
theorem lw_p45 : lw_okq (⟨"OilRoundModel", "fromDepot", "(I)I"⟩, 45) := ⟨⟨by decide +kernel, by decide +kernel⟩, List.mem_of_getElem? (i := 670) (by decide +kernel), List.mem_of_getElem? (i := 900) (by decide +kernel), List.mem_of_getElem? (i := 901) (by decide +kernel)⟩
theorem lw_p46 : lw_okq (⟨"OilRoundModel", "between", "(II)I"⟩, 45) := ⟨⟨by decide +kernel, by decide +kernel⟩, List.mem_of_getElem? (i := 670) (by decide +kernel), List.mem_of_getElem? (i := 907) (by decide +kernel), List.mem_of_getElem? (i := 908) (by decide +kernel)⟩
theorem lw_p47 : lw_okq (⟨"OilRoundModel", "nextOf", "(II)I"⟩, 45) := ⟨⟨by decide +kernel, by decide +kernel⟩, List.mem_of_getElem? (i := 670) (by decide +kernel), List.mem_of_getElem? (i := 911) (by decide +kernel), List.mem_of_getElem? (i := 912) (by decide +kernel)⟩
def lw_privs_3 : List (MethodName × Nat) := [(⟨"OilRound$Asks", "steadyWeight", "(LOilRound$House;)I"⟩, 2), (⟨"OilRound$Asks", "knownWeight", "(LOilRound$House;)I"⟩, 2), (⟨"OilRound$Asks", "leakyMark", "(LOilRound$House;)I"⟩, 2), (⟨"OilRound$Asks", "lentMark", "(LOilRound$House;)I"⟩, 2), (⟨"OilRound$Asks", "knownMark", "(LOilRound$House;)I"⟩, 2), (⟨"OilRoundModel", "isHouse", "(I)Z"⟩, 45), (⟨"OilRoundModel", "lowOf", "(II)I"⟩, 45), (⟨"OilRoundModel", "highOf", "(II)I"⟩, 45), (⟨"OilRoundModel", "due", "()I"⟩, 45), (⟨"OilRoundModel", "isDue", "(I)Z"⟩, 45), (⟨"OilRoundModel", "canGo", "(I)I"⟩, 45), (⟨"OilRoundModel", "isSet", "(I)Z"⟩, 45), (⟨"OilRoundModel", "findWays", "()V"⟩, 45), (⟨"OilRoundModel", "fromDepot", "(I)I"⟩, 45), (⟨"OilRoundModel", "between", "(II)I"⟩, 45), (⟨"OilRoundModel", "nextOf", "(II)I"⟩, 45)]
theorem lw_r3 : ∀ q ∈ lw_privs_3, lw_okq q := List.forall_mem_cons.mpr ⟨lw_p32, List.forall_mem_cons.mpr ⟨lw_p33, List.forall_mem_cons.mpr ⟨lw_p34, List.forall_mem_cons.mpr ⟨lw_p35, List.forall_mem_cons.mpr ⟨lw_p36, List.forall_mem_cons.mpr ⟨lw_p37, List.forall_mem_cons.mpr ⟨lw_p38, List.forall_mem_cons.mpr ⟨lw_p39, List.forall_mem_cons.mpr ⟨lw_p40, List.forall_mem_cons.mpr ⟨lw_p41, List.forall_mem_cons.mpr ⟨lw_p42, List.forall_mem_cons.mpr ⟨lw_p43, List.forall_mem_cons.mpr ⟨lw_p44, List.forall_mem_cons.mpr ⟨lw_p45, List.forall_mem_cons.mpr ⟨lw_p46, List.forall_mem_cons.mpr ⟨lw_p47, fun _ h => absurd h List.not_mem_nil⟩⟩⟩⟩⟩⟩⟩⟩⟩⟩⟩⟩⟩⟩⟩⟩
theorem lw_p48 : lw_okq (⟨"OilRoundModel", "cost", "(II)I"⟩, 45) := ⟨⟨by decide +kernel, by decide +kernel⟩, List.mem_of_getElem? (i := 670) (by decide +kernel), List.mem_of_getElem? (i := 923) (by decide +kernel), List.mem_of_getElem? (i := 924) (by decide +kernel)⟩
theorem lw_p49 : lw_okq (⟨"OilRoundModel", "makeNarrower", "(II)V"⟩, 45) := ⟨⟨by decide +kernel, by decide +kernel⟩, List.mem_of_getElem? (i := 670) (by decide +kernel), List.mem_of_getElem? (i := 930) (by decide +kernel), List.mem_of_getElem? (i := 931) (by decide +kernel)⟩
theorem lw_p50 : lw_okq (⟨"OilRoundModel", "step", "()V"⟩, 45) := ⟨⟨by decide +kernel, by decide +kernel⟩, List.mem_of_getElem? (i := 670) (by decide +kernel), List.mem_of_getElem? (i := 962) (by decide +kernel), List.mem_of_getElem? (i := 963) (by decide +kernel)⟩
theorem lw_p51 : lw_okq (⟨"OilRoundModel", "byteAt", "(I)I"⟩, 45) := ⟨⟨by decide +kernel, by decide +kernel⟩, List.mem_of_getElem? (i := 670) (by decide +kernel), List.mem_of_getElem? (i := 966) (by decide +kernel), List.mem_of_getElem? (i := 967) (by decide +kernel)⟩
theorem lw_p52 : lw_okq (⟨"OilRoundModel", "readOne", "()V"⟩, 45) := ⟨⟨by decide +kernel, by decide +kernel⟩, List.mem_of_getElem? (i := 670) (by decide +kernel), List.mem_of_getElem? (i := 976) (by decide +kernel), List.mem_of_getElem? (i := 977) (by decide +kernel)⟩
theorem lw_p53 : lw_okq (⟨"OilRoundModel", "name", "()J"⟩, 45) := ⟨⟨by decide +kernel, by decide +kernel⟩, List.mem_of_getElem? (i := 670) (by decide +kernel), List.mem_of_getElem? (i := 980) (by decide +kernel), List.mem_of_getElem? (i := 981) (by decide +kernel)⟩
theorem lw_p54 : lw_okq (⟨"OilRoundModel", "take", "(Z)V"⟩, 45) := ⟨⟨by decide +kernel, by decide +kernel⟩, List.mem_of_getElem? (i := 670) (by decide +kernel), List.mem_of_getElem? (i := 985) (by decide +kernel), List.mem_of_getElem? (i := 986) (by decide +kernel)⟩
theorem lw_p55 : lw_okq (⟨"OilRoundModel", "bad", "(I)V"⟩, 45) := ⟨⟨by decide +kernel, by decide +kernel⟩, List.mem_of_getElem? (i := 670) (by decide +kernel), List.mem_of_getElem? (i := 989) (by decide +kernel), List.mem_of_getElem? (i := 990) (by decide +kernel)⟩
theorem lw_p56 : lw_okq (⟨"OilRoundModel", "number", "()I"⟩, 45) := ⟨⟨by decide +kernel, by decide +kernel⟩, List.mem_of_getElem? (i := 670) (by decide +kernel), List.mem_of_getElem? (i := 993) (by decide +kernel), List.mem_of_getElem? (i := 994) (by decide +kernel)⟩
theorem lw_p57 : lw_okq (⟨"OilRoundModel", "is", "(I)Z"⟩, 45) := ⟨⟨by decide +kernel, by decide +kernel⟩, List.mem_of_getElem? (i := 670) (by decide +kernel), List.mem_of_getElem? (i := 1000) (by decide +kernel), List.mem_of_getElem? (i := 1001) (by decide +kernel)⟩
theorem lw_p58 : lw_okq (⟨"OilRoundModel", "kindOf", "(I)I"⟩, 45) := ⟨⟨by decide +kernel, by decide +kernel⟩, List.mem_of_getElem? (i := 670) (by decide +kernel), List.mem_of_getElem? (i := 1013) (by decide +kernel), List.mem_of_getElem? (i := 1014) (by decide +kernel)⟩
theorem lw_p59 : lw_okq (⟨"OilRoundModel", "weight", "(I)I"⟩, 45) := ⟨⟨by decide +kernel, by decide +kernel⟩, List.mem_of_getElem? (i := 670) (by decide +kernel), List.mem_of_getElem? (i := 1027) (by decide +kernel), List.mem_of_getElem? (i := 1028) (by decide +kernel)⟩
theorem lw_p60 : lw_okq (⟨"OilRoundModel", "began", "(I)V"⟩, 45) := ⟨⟨by decide +kernel, by decide +kernel⟩, List.mem_of_getElem? (i := 670) (by decide +kernel), List.mem_of_getElem? (i := 1031) (by decide +kernel), List.mem_of_getElem? (i := 1032) (by decide +kernel)⟩
theorem lw_p61 : lw_okq (⟨"OilRoundModel", "marked", "(I)I"⟩, 45) := ⟨⟨by decide +kernel, by decide +kernel⟩, List.mem_of_getElem? (i := 670) (by decide +kernel), List.mem_of_getElem? (i := 1035) (by decide +kernel), List.mem_of_getElem? (i := 1036) (by decide +kernel)⟩
def lw_privs_4 : List (MethodName × Nat) := [(⟨"OilRoundModel", "cost", "(II)I"⟩, 45), (⟨"OilRoundModel", "makeNarrower", "(II)V"⟩, 45), (⟨"OilRoundModel", "step", "()V"⟩, 45), (⟨"OilRoundModel", "byteAt", "(I)I"⟩, 45), (⟨"OilRoundModel", "readOne", "()V"⟩, 45), (⟨"OilRoundModel", "name", "()J"⟩, 45), (⟨"OilRoundModel", "take", "(Z)V"⟩, 45), (⟨"OilRoundModel", "bad", "(I)V"⟩, 45), (⟨"OilRoundModel", "number", "()I"⟩, 45), (⟨"OilRoundModel", "is", "(I)Z"⟩, 45), (⟨"OilRoundModel", "kindOf", "(I)I"⟩, 45), (⟨"OilRoundModel", "weight", "(I)I"⟩, 45), (⟨"OilRoundModel", "began", "(I)V"⟩, 45), (⟨"OilRoundModel", "marked", "(I)I"⟩, 45)]
theorem lw_r4 : ∀ q ∈ lw_privs_4, lw_okq q := List.forall_mem_cons.mpr ⟨lw_p48, List.forall_mem_cons.mpr ⟨lw_p49, List.forall_mem_cons.mpr ⟨lw_p50, List.forall_mem_cons.mpr ⟨lw_p51, List.forall_mem_cons.mpr ⟨lw_p52, List.forall_mem_cons.mpr ⟨lw_p53, List.forall_mem_cons.mpr ⟨lw_p54, List.forall_mem_cons.mpr ⟨lw_p55, List.forall_mem_cons.mpr ⟨lw_p56, List.forall_mem_cons.mpr ⟨lw_p57, List.forall_mem_cons.mpr ⟨lw_p58, List.forall_mem_cons.mpr ⟨lw_p59, List.forall_mem_cons.mpr ⟨lw_p60, List.forall_mem_cons.mpr ⟨lw_p61, fun _ h => absurd h List.not_mem_nil⟩⟩⟩⟩⟩⟩⟩⟩⟩⟩⟩⟩⟩⟩
def lw_privs : List (MethodName × Nat) := lw_privs_1 ++ (lw_privs_2 ++ (lw_privs_3 ++ (lw_privs_4)))
def lw_tbl : List Cond := k2_sels lw_privs ++ tables_1
theorem lw_privs_ok : ∀ q ∈ lw_privs, lw_okq q := by
  show ∀ q ∈ lw_privs_1 ++ (lw_privs_2 ++ (lw_privs_3 ++ (lw_privs_4))), lw_okq q
  exact List.forall_mem_append.mpr ⟨lw_r1, List.forall_mem_append.mpr ⟨lw_r2, List.forall_mem_append.mpr ⟨lw_r3, lw_r4⟩⟩⟩
-- ===== end of PART A; then your names; then what follows =====
/-! ===== BEGIN words of one list among another's, by their places ===== -/
/-! ===== END ===== -/

/-! ===== BEGIN printed: names, fields, word lists, decode rows ===== -/
def RX0 : String := "OilRound$Asks"
def TX0 : u_T := fun k => match k with
  | 0 => ("OilRound$Asks", "begun", "[I", true)
  | _ => ("OilRound$Asks", "length", "I", false)
def tyX0 : Nat → FieldType := fun k => match k with
  | 0 => .array .int
  | _ => .int
theorem nmX0 : ∀ a, a < 2 → ∀ b, b < 2 → a ≠ b → (TX0 a).2.1 ≠ (TX0 b).2.1 := by decide +kernel
theorem tyX0_ok : ∀ k, k < 2 → parseFieldDescriptor (TX0 k).2.2.1 = some (tyX0 k) := by decide +kernel
abbrev cX0_init : ByteArray := prog_2_method_1_code
def yX0_init : MethodName := ⟨RX0, "<init>", "()V"⟩
abbrev cX0_emptyTrace : ByteArray := prog_2_method_2_code
def yX0_emptyTrace : MethodName := ⟨RX0, "emptyTrace", "()V"⟩
abbrev cX0_traced : ByteArray := prog_2_method_3_code
def yX0_traced : MethodName := ⟨RX0, "traced", "(I)I"⟩
abbrev cX0_weight : ByteArray := prog_2_method_4_code
def yX0_weight : MethodName := ⟨RX0, "weight", "(LOilRound$House;)I"⟩
abbrev cX0_mark : ByteArray := prog_2_method_5_code
def yX0_mark : MethodName := ⟨RX0, "mark", "(LOilRound$House;)I"⟩
abbrev cX0_lentWeight : ByteArray := prog_2_method_6_code
def yX0_lentWeight : MethodName := ⟨RX0, "lentWeight", "(LOilRound$House;)I"⟩
abbrev cX0_knownWeight : ByteArray := prog_2_method_7_code
def yX0_knownWeight : MethodName := ⟨RX0, "knownWeight", "(LOilRound$House;)I"⟩
abbrev cX0_steadyWeight : ByteArray := prog_2_method_8_code
def yX0_steadyWeight : MethodName := ⟨RX0, "steadyWeight", "(LOilRound$House;)I"⟩
abbrev cX0_leakyWeight : ByteArray := prog_2_method_9_code
def yX0_leakyWeight : MethodName := ⟨RX0, "leakyWeight", "(LOilRound$House;)I"⟩
abbrev cX0_lentMark : ByteArray := prog_2_method_10_code
def yX0_lentMark : MethodName := ⟨RX0, "lentMark", "(LOilRound$House;)I"⟩
abbrev cX0_knownMark : ByteArray := prog_2_method_11_code
def yX0_knownMark : MethodName := ⟨RX0, "knownMark", "(LOilRound$House;)I"⟩
abbrev cX0_leakyMark : ByteArray := prog_2_method_12_code
def yX0_leakyMark : MethodName := ⟨RX0, "leakyMark", "(LOilRound$House;)I"⟩
abbrev cX0_begin : ByteArray := prog_2_method_13_code
def yX0_begin : MethodName := ⟨RX0, "begin", "(I)V"⟩
def RX1 : String := "OilRound$House"
def TX1 : u_T := fun k => match k with
  | 0 => ("OilRound$House", "x", "I", true)
  | 1 => ("OilRound$House", "y", "I", true)
  | 2 => ("OilRound$House", "holds", "I", true)
  | 3 => ("OilRound$House", "plan", "LOilRound$Plan;", true)
  | 4 => ("OilRound$House", "a", "I", false)
  | 5 => ("OilRound$House", "b", "I", false)
  | 6 => ("OilRound$House", "c", "I", false)
  | 7 => ("OilRound$House", "d", "I", false)
  | 8 => ("OilRound$House", "up", "I", false)
  | 9 => ("OilRound$House", "down", "I", false)
  | 10 => ("OilRound$House", "fills", "I", false)
  | 11 => ("OilRound$House", "note", "I", false)
  | 12 => ("OilRound$House", "everNoted", "Z", false)
  | 13 => ("OilRound$House", "daysSince", "I", false)
  | _ => ("OilRound$House", "coldSince", "I", false)
def tyX1 : Nat → FieldType := fun k => match k with
  | 0 => .int
  | 1 => .int
  | 2 => .int
  | 3 => .object "OilRound$Plan"
  | 4 => .int
  | 5 => .int
  | 6 => .int
  | 7 => .int
  | 8 => .int
  | 9 => .int
  | 10 => .int
  | 11 => .int
  | 12 => .boolean
  | 13 => .int
  | _ => .int
theorem nmX1 : ∀ a, a < 15 → ∀ b, b < 15 → a ≠ b → (TX1 a).2.1 ≠ (TX1 b).2.1 := by decide +kernel
theorem tyX1_ok : ∀ k, k < 15 → parseFieldDescriptor (TX1 k).2.2.1 = some (tyX1 k) := by decide +kernel
abbrev cX1_init : ByteArray := prog_3_method_1_code
def yX1_init : MethodName := ⟨RX1, "<init>", "(III)V"⟩
abbrev cX1_low : ByteArray := prog_3_method_2_code
def yX1_low : MethodName := ⟨RX1, "low", "(I)I"⟩
abbrev cX1_high : ByteArray := prog_3_method_3_code
def yX1_high : MethodName := ⟨RX1, "high", "(I)I"⟩
abbrev cX1_endDay : ByteArray := prog_3_method_4_code
def yX1_endDay : MethodName := ⟨RX1, "endDay", "(I)V"⟩
abbrev cX1_isSafe : ByteArray := prog_3_method_5_code
def yX1_isSafe : MethodName := ⟨RX1, "isSafe", "()Z"⟩
abbrev cX1_isDue : ByteArray := prog_3_method_6_code
def yX1_isDue : MethodName := ⟨RX1, "isDue", "(II)Z"⟩
abbrev cX1_daysToGo : ByteArray := prog_3_method_7_code
def yX1_daysToGo : MethodName := ⟨RX1, "daysToGo", "(I)I"⟩
abbrev cX1_daysAboveZero : ByteArray := prog_3_method_8_code
def yX1_daysAboveZero : MethodName := ⟨RX1, "daysAboveZero", "(I)I"⟩
abbrev cX1_mayNeed : ByteArray := prog_3_method_9_code
def yX1_mayNeed : MethodName := ⟨RX1, "mayNeed", "()I"⟩
abbrev cX1_takeFill : ByteArray := prog_3_method_10_code
def yX1_takeFill : MethodName := ⟨RX1, "takeFill", "(I)V"⟩
abbrev cX1_noteOf : ByteArray := prog_3_method_11_code
def yX1_noteOf : MethodName := ⟨RX1, "noteOf", "(I)I"⟩
abbrev cX1_narrow : ByteArray := prog_3_method_12_code
def yX1_narrow : MethodName := ⟨RX1, "narrow", "(I)V"⟩
abbrev cX1_cut : ByteArray := prog_3_method_13_code
def yX1_cut : MethodName := ⟨RX1, "cut", "(II)I"⟩
abbrev cX1_roundedUp : ByteArray := prog_3_method_14_code
def yX1_roundedUp : MethodName := ⟨RX1, "roundedUp", "(II)I"⟩
abbrev cX1_isOf : ByteArray := prog_3_method_15_code
def yX1_isOf : MethodName := ⟨RX1, "isOf", "(I)Z"⟩
abbrev cX1_toldKind : ByteArray := prog_3_method_16_code
def yX1_toldKind : MethodName := ⟨RX1, "toldKind", "()I"⟩
abbrev cX1_isLeaky : ByteArray := prog_3_method_17_code
def yX1_isLeaky : MethodName := ⟨RX1, "isLeaky", "()Z"⟩
abbrev cX1_isSteady : ByteArray := prog_3_method_18_code
def yX1_isSteady : MethodName := ⟨RX1, "isSteady", "()Z"⟩
abbrev cX1_isKnown : ByteArray := prog_3_method_19_code
def yX1_isKnown : MethodName := ⟨RX1, "isKnown", "()Z"⟩
def RX2 : String := "OilRound$Plan"
def TX2 : u_T := fun k => match k with
  | 0 => ("OilRound$Plan", "way", "I", false)
  | 1 => ("OilRound$Plan", "litres", "I", false)
  | _ => ("OilRound$Plan", "ownPrice", "I", false)
def tyX2 : Nat → FieldType := fun k => match k with
  | 0 => .int
  | 1 => .int
  | _ => .int
theorem nmX2 : ∀ a, a < 3 → ∀ b, b < 3 → a ≠ b → (TX2 a).2.1 ≠ (TX2 b).2.1 := by decide +kernel
theorem tyX2_ok : ∀ k, k < 3 → parseFieldDescriptor (TX2 k).2.2.1 = some (tyX2 k) := by decide +kernel
abbrev cX2_init : ByteArray := prog_4_method_1_code
def yX2_init : MethodName := ⟨RX2, "<init>", "()V"⟩
abbrev cX2_become : ByteArray := prog_4_method_2_code
def yX2_become : MethodName := ⟨RX2, "become", "(III)V"⟩
abbrev cX2_costOf : ByteArray := prog_4_method_3_code
def yX2_costOf : MethodName := ⟨RX2, "costOf", "(II)I"⟩
abbrev cX2_useUp : ByteArray := prog_4_method_4_code
def yX2_useUp : MethodName := ⟨RX2, "useUp", "(I)V"⟩
abbrev cX2_ahead : ByteArray := prog_4_method_5_code
def yX2_ahead : MethodName := ⟨RX2, "ahead", "(I)I"⟩
def RX3 : String := "OilRound$PlanText"
def TX3 : u_T := fun k => match k with
  | 0 => ("OilRound$PlanText", "bytes", "[B", true)
  | 1 => ("OilRound$PlanText", "size", "I", false)
  | 2 => ("OilRound$PlanText", "latestFault", "I", false)
  | 3 => ("OilRound$PlanText", "next", "I", false)
  | 4 => ("OilRound$PlanText", "token", "I", false)
  | 5 => ("OilRound$PlanText", "start", "I", false)
  | 6 => ("OilRound$PlanText", "number", "I", false)
  | 7 => ("OilRound$PlanText", "state", "I", false)
  | 8 => ("OilRound$PlanText", "toldHouse", "LOilRound$House;", false)
  | 9 => ("OilRound$PlanText", "way", "I", false)
  | 10 => ("OilRound$PlanText", "litres", "I", false)
  | _ => ("OilRound$PlanText", "ownPrice", "I", false)
def tyX3 : Nat → FieldType := fun k => match k with
  | 0 => .array .byte
  | 1 => .int
  | 2 => .int
  | 3 => .int
  | 4 => .int
  | 5 => .int
  | 6 => .int
  | 7 => .int
  | 8 => .object "OilRound$House"
  | 9 => .int
  | 10 => .int
  | _ => .int
theorem nmX3 : ∀ a, a < 12 → ∀ b, b < 12 → a ≠ b → (TX3 a).2.1 ≠ (TX3 b).2.1 := by decide +kernel
theorem tyX3_ok : ∀ k, k < 12 → parseFieldDescriptor (TX3 k).2.2.1 = some (tyX3 k) := by decide +kernel
abbrev cX3_init : ByteArray := prog_5_method_1_code
def yX3_init : MethodName := ⟨RX3, "<init>", "()V"⟩
abbrev cX3_append : ByteArray := prog_5_method_2_code
def yX3_append : MethodName := ⟨RX3, "append", "(JI)I"⟩
abbrev cX3_readAll : ByteArray := prog_5_method_3_code
def yX3_readAll : MethodName := ⟨RX3, "readAll", "([LOilRound$House;)I"⟩
abbrev cX3_readOnce : ByteArray := prog_5_method_4_code
def yX3_readOnce : MethodName := ⟨RX3, "readOnce", "([LOilRound$House;Z)I"⟩
abbrev cX3_takeToken : ByteArray := prog_5_method_5_code
def yX3_takeToken : MethodName := ⟨RX3, "takeToken", "([LOilRound$House;)I"⟩
abbrev cX3_canStandHere : ByteArray := prog_5_method_6_code
def yX3_canStandHere : MethodName := ⟨RX3, "canStandHere", "()Z"⟩
abbrev cX3_takeWay : ByteArray := prog_5_method_7_code
def yX3_takeWay : MethodName := ⟨RX3, "takeWay", "()V"⟩
abbrev cX3_readToken : ByteArray := prog_5_method_8_code
def yX3_readToken : MethodName := ⟨RX3, "readToken", "()V"⟩
abbrev cX3_nameToken : ByteArray := prog_5_method_9_code
def yX3_nameToken : MethodName := ⟨RX3, "nameToken", "()I"⟩
abbrev cX3_isName : ByteArray := prog_5_method_10_code
def yX3_isName : MethodName := ⟨RX3, "isName", "(Ljava/lang/String;)Z"⟩
abbrev cX3_numberToken : ByteArray := prog_5_method_11_code
def yX3_numberToken : MethodName := ⟨RX3, "numberToken", "()I"⟩
abbrev cX3_isLetter : ByteArray := prog_5_method_12_code
def yX3_isLetter : MethodName := ⟨RX3, "isLetter", "(I)Z"⟩
abbrev cX3_isFigure : ByteArray := prog_5_method_13_code
def yX3_isFigure : MethodName := ⟨RX3, "isFigure", "(I)Z"⟩
abbrev cX3_byteAt : ByteArray := prog_5_method_14_code
def yX3_byteAt : MethodName := ⟨RX3, "byteAt", "(I)I"⟩
def RX4 : String := "OilRound$Route"
def TX4 : u_T := fun k => match k with
  | 0 => ("OilRound$Route", "numbers", "[I", true)
  | 1 => ("OilRound$Route", "xs", "[I", true)
  | 2 => ("OilRound$Route", "ys", "[I", true)
  | 3 => ("OilRound$Route", "order", "[I", true)
  | 4 => ("OilRound$Route", "least", "[I", true)
  | 5 => ("OilRound$Route", "keptSet", "I", false)
  | _ => ("OilRound$Route", "size", "I", false)
def tyX4 : Nat → FieldType := fun k => match k with
  | 0 => .array .int
  | 1 => .array .int
  | 2 => .array .int
  | 3 => .array .int
  | 4 => .array .int
  | 5 => .int
  | _ => .int
theorem nmX4 : ∀ a, a < 7 → ∀ b, b < 7 → a ≠ b → (TX4 a).2.1 ≠ (TX4 b).2.1 := by decide +kernel
theorem tyX4_ok : ∀ k, k < 7 → parseFieldDescriptor (TX4 k).2.2.1 = some (tyX4 k) := by decide +kernel
abbrev cX4_init : ByteArray := prog_6_method_1_code
def yX4_init : MethodName := ⟨RX4, "<init>", "()V"⟩
abbrev cX4_way : ByteArray := prog_6_method_2_code
def yX4_way : MethodName := ⟨RX4, "way", "()I"⟩
abbrev cX4_houseOn : ByteArray := prog_6_method_3_code
def yX4_houseOn : MethodName := ⟨RX4, "houseOn", "(I)I"⟩
abbrev cX4_prepare : ByteArray := prog_6_method_4_code
def yX4_prepare : MethodName := ⟨RX4, "prepare", "(I[LOilRound$House;)V"⟩
abbrev cX4_gather : ByteArray := prog_6_method_5_code
def yX4_gather : MethodName := ⟨RX4, "gather", "(I[LOilRound$House;)V"⟩
abbrev cX4_measure : ByteArray := prog_6_method_6_code
def yX4_measure : MethodName := ⟨RX4, "measure", "(II)V"⟩
abbrev cX4_arrange : ByteArray := prog_6_method_7_code
def yX4_arrange : MethodName := ⟨RX4, "arrange", "()V"⟩
abbrev cX4_firstNext : ByteArray := prog_6_method_8_code
def yX4_firstNext : MethodName := ⟨RX4, "firstNext", "(II)I"⟩
abbrev cX4_wayBy : ByteArray := prog_6_method_9_code
def yX4_wayBy : MethodName := ⟨RX4, "wayBy", "(III)I"⟩
abbrev cX4_leastAt : ByteArray := prog_6_method_10_code
def yX4_leastAt : MethodName := ⟨RX4, "leastAt", "(II)I"⟩
abbrev cX4_between : ByteArray := prog_6_method_11_code
def yX4_between : MethodName := ⟨RX4, "between", "(II)I"⟩
def RX5 : String := "OilRound"
def TX5 : u_T := fun k => match k with
  | 0 => ("OilRound", "houses", "[LOilRound$House;", true)
  | 1 => ("OilRound", "route", "LOilRound$Route;", true)
  | 2 => ("OilRound", "text", "LOilRound$PlanText;", true)
  | 3 => ("OilRound", "asks", "LOilRound$Asks;", true)
  | 4 => ("OilRound", "houseCount", "I", false)
  | 5 => ("OilRound", "daysGone", "I", false)
  | 6 => ("OilRound", "lookDays", "I", false)
  | 7 => ("OilRound", "lookCold", "I", false)
  | 8 => ("OilRound", "lorryHolds", "I", false)
  | 9 => ("OilRound", "dayPrice", "I", false)
  | 10 => ("OilRound", "inDepot", "I", false)
  | 11 => ("OilRound", "litresCome", "J", false)
  | 12 => ("OilRound", "litresFilled", "J", false)
  | _ => ("OilRound", "allPaid", "J", false)
def tyX5 : Nat → FieldType := fun k => match k with
  | 0 => .array (.object "OilRound$House")
  | 1 => .object "OilRound$Route"
  | 2 => .object "OilRound$PlanText"
  | 3 => .object "OilRound$Asks"
  | 4 => .int
  | 5 => .int
  | 6 => .int
  | 7 => .int
  | 8 => .int
  | 9 => .int
  | 10 => .int
  | 11 => .long
  | 12 => .long
  | _ => .long
theorem nmX5 : ∀ a, a < 14 → ∀ b, b < 14 → a ≠ b → (TX5 a).2.1 ≠ (TX5 b).2.1 := by decide +kernel
theorem tyX5_ok : ∀ k, k < 14 → parseFieldDescriptor (TX5 k).2.2.1 = some (tyX5 k) := by decide +kernel
abbrev cX5_init : ByteArray := prog_1_method_1_code
def yX5_init : MethodName := ⟨RX5, "<init>", "()V"⟩
abbrev cX5_house : ByteArray := prog_1_method_2_code
def yX5_house : MethodName := ⟨RX5, "house", "(III)I"⟩
abbrev cX5_prior : ByteArray := prog_1_method_3_code
def yX5_prior : MethodName := ⟨RX5, "prior", "(IIIII)I"⟩
abbrev cX5_day : ByteArray := prog_1_method_4_code
def yX5_day : MethodName := ⟨RX5, "day", "(I)I"⟩
abbrev cX5_look : ByteArray := prog_1_method_5_code
def yX5_look : MethodName := ⟨RX5, "look", "(II)I"⟩
abbrev cX5_told : ByteArray := prog_1_method_6_code
def yX5_told : MethodName := ⟨RX5, "told", "(II)I"⟩
abbrev cX5_lasts : ByteArray := prog_1_method_7_code
def yX5_lasts : MethodName := ⟨RX5, "lasts", "(II)I"⟩
abbrev cX5_stock : ByteArray := prog_1_method_8_code
def yX5_stock : MethodName := ⟨RX5, "stock", "(I)I"⟩
abbrev cX5_lorry : ByteArray := prog_1_method_9_code
def yX5_lorry : MethodName := ⟨RX5, "lorry", "(I)I"⟩
abbrev cX5_calls : ByteArray := prog_1_method_10_code
def yX5_calls : MethodName := ⟨RX5, "calls", "()I"⟩
abbrev cX5_round : ByteArray := prog_1_method_11_code
def yX5_round : MethodName := ⟨RX5, "round", "(II)I"⟩
abbrev cX5_stop : ByteArray := prog_1_method_12_code
def yX5_stop : MethodName := ⟨RX5, "stop", "(II)I"⟩
abbrev cX5_fill : ByteArray := prog_1_method_13_code
def yX5_fill : MethodName := ⟨RX5, "fill", "(II)I"⟩
abbrev cX5_price : ByteArray := prog_1_method_14_code
def yX5_price : MethodName := ⟨RX5, "price", "(I)I"⟩
abbrev cX5_feed : ByteArray := prog_1_method_15_code
def yX5_feed : MethodName := ⟨RX5, "feed", "(JI)I"⟩
abbrev cX5_plans : ByteArray := prog_1_method_16_code
def yX5_plans : MethodName := ⟨RX5, "plans", "()I"⟩
abbrev cX5_fault : ByteArray := prog_1_method_17_code
def yX5_fault : MethodName := ⟨RX5, "fault", "()I"⟩
abbrev cX5_quote : ByteArray := prog_1_method_18_code
def yX5_quote : MethodName := ⟨RX5, "quote", "(II)I"⟩
abbrev cX5_kind : ByteArray := prog_1_method_19_code
def yX5_kind : MethodName := ⟨RX5, "kind", "(I)I"⟩
abbrev cX5_as : ByteArray := prog_1_method_20_code
def yX5_as : MethodName := ⟨RX5, "as", "(II)I"⟩
abbrev cX5_ask : ByteArray := prog_1_method_21_code
def yX5_ask : MethodName := ⟨RX5, "ask", "(II)I"⟩
abbrev cX5_trace : ByteArray := prog_1_method_22_code
def yX5_trace : MethodName := ⟨RX5, "trace", "(I)I"⟩
abbrev cX5_count : ByteArray := prog_1_method_23_code
def yX5_count : MethodName := ⟨RX5, "count", "(I)J"⟩
abbrev cX5_isOutside : ByteArray := prog_1_method_24_code
def yX5_isOutside : MethodName := ⟨RX5, "isOutside", "(III)Z"⟩
abbrev cX5_houseIn : ByteArray := prog_1_method_25_code
def yX5_houseIn : MethodName := ⟨RX5, "houseIn", "([LOilRound$House;I)LOilRound$House;"⟩
abbrev cX5_houseAt : ByteArray := prog_1_method_26_code
def yX5_houseAt : MethodName := ⟨RX5, "houseAt", "(I)LOilRound$House;"⟩
abbrev cX5_countDue : ByteArray := prog_1_method_27_code
def yX5_countDue : MethodName := ⟨RX5, "countDue", "()I"⟩
abbrev cX5_mostUrgent : ByteArray := prog_1_method_28_code
def yX5_mostUrgent : MethodName := ⟨RX5, "mostUrgent", "(I)I"⟩
abbrev cX5_isNoRound : ByteArray := prog_1_method_29_code
def yX5_isNoRound : MethodName := ⟨RX5, "isNoRound", "(I)Z"⟩
abbrev cX5_needOf : ByteArray := prog_1_method_30_code
def yX5_needOf : MethodName := ⟨RX5, "needOf", "(I)I"⟩
def RX6 : String := "OilRoundModel"
def TX6 : u_T := fun k => match k with
  | 0 => ("OilRoundModel", "thrown", "I", false)
  | 1 => ("OilRoundModel", "houses", "I", false)
  | 2 => ("OilRoundModel", "px", "[I", true)
  | 3 => ("OilRoundModel", "py", "[I", true)
  | 4 => ("OilRoundModel", "holds", "[I", true)
  | 5 => ("OilRoundModel", "prior", "[I", true)
  | 6 => ("OilRoundModel", "up", "[I", true)
  | 7 => ("OilRoundModel", "down", "[I", true)
  | 8 => ("OilRoundModel", "fills", "[I", true)
  | 9 => ("OilRoundModel", "noted", "[I", true)
  | 10 => ("OilRoundModel", "wasNoted", "[Z", true)
  | 11 => ("OilRoundModel", "days", "[I", true)
  | 12 => ("OilRoundModel", "colds", "[I", true)
  | 13 => ("OilRoundModel", "plan", "[I", true)
  | 14 => ("OilRoundModel", "planMany", "[I", true)
  | 15 => ("OilRoundModel", "planPrice", "[I", true)
  | 16 => ("OilRoundModel", "day", "I", false)
  | 17 => ("OilRoundModel", "ahead", "I", false)
  | 18 => ("OilRoundModel", "aheadCold", "I", false)
  | 19 => ("OilRoundModel", "stock", "I", false)
  | 20 => ("OilRoundModel", "lorry", "I", false)
  | 21 => ("OilRoundModel", "price", "I", false)
  | 22 => ("OilRoundModel", "came", "J", false)
  | 23 => ("OilRoundModel", "filled", "J", false)
  | 24 => ("OilRoundModel", "paid", "J", false)
  | 25 => ("OilRoundModel", "own", "[I", true)
  | 26 => ("OilRoundModel", "many", "I", false)
  | 27 => ("OilRoundModel", "least", "[I", true)
  | 28 => ("OilRoundModel", "tape", "[I", true)
  | 29 => ("OilRoundModel", "taped", "I", false)
  | 30 => ("OilRoundModel", "latest", "I", false)
  | 31 => ("OilRoundModel", "sizeOf", "I", false)
  | 32 => ("OilRoundModel", "at", "I", false)
  | 33 => ("OilRoundModel", "sort", "I", false)
  | 34 => ("OilRoundModel", "place", "I", false)
  | 35 => ("OilRoundModel", "end", "I", false)
  | 36 => ("OilRoundModel", "fault", "I", false)
  | 37 => ("OilRoundModel", "faultAt", "I", false)
  | 38 => ("OilRoundModel", "told", "I", false)
  | 39 => ("OilRoundModel", "toldHouse", "[I", true)
  | 40 => ("OilRoundModel", "toldPlan", "[I", true)
  | 41 => ("OilRoundModel", "toldMany", "[I", true)
  | 42 => ("OilRoundModel", "toldPrice", "[I", true)
  | 43 => ("OilRoundModel", "trace", "[I", true)
  | _ => ("OilRoundModel", "traced", "I", false)
def tyX6 : Nat → FieldType := fun k => match k with
  | 0 => .int
  | 1 => .int
  | 2 => .array .int
  | 3 => .array .int
  | 4 => .array .int
  | 5 => .array .int
  | 6 => .array .int
  | 7 => .array .int
  | 8 => .array .int
  | 9 => .array .int
  | 10 => .array .boolean
  | 11 => .array .int
  | 12 => .array .int
  | 13 => .array .int
  | 14 => .array .int
  | 15 => .array .int
  | 16 => .int
  | 17 => .int
  | 18 => .int
  | 19 => .int
  | 20 => .int
  | 21 => .int
  | 22 => .long
  | 23 => .long
  | 24 => .long
  | 25 => .array .int
  | 26 => .int
  | 27 => .array .int
  | 28 => .array .int
  | 29 => .int
  | 30 => .int
  | 31 => .int
  | 32 => .int
  | 33 => .int
  | 34 => .int
  | 35 => .int
  | 36 => .int
  | 37 => .int
  | 38 => .int
  | 39 => .array .int
  | 40 => .array .int
  | 41 => .array .int
  | 42 => .array .int
  | 43 => .array .int
  | _ => .int
theorem nmX6 : ∀ a, a < 45 → ∀ b, b < 45 → a ≠ b → (TX6 a).2.1 ≠ (TX6 b).2.1 := by decide +kernel
theorem tyX6_ok : ∀ k, k < 45 → parseFieldDescriptor (TX6 k).2.2.1 = some (tyX6 k) := by decide +kernel
abbrev cX6_init : ByteArray := prog_8_method_1_code
def yX6_init : MethodName := ⟨RX6, "<init>", "()V"⟩
abbrev cX6_in : ByteArray := prog_8_method_3_code
def yX6_in : MethodName := ⟨RX6, "in", "(JJJ)Z"⟩
abbrev cX6_isHouse : ByteArray := prog_8_method_4_code
def yX6_isHouse : MethodName := ⟨RX6, "isHouse", "(I)Z"⟩
abbrev cX6_house : ByteArray := prog_8_method_5_code
def yX6_house : MethodName := ⟨RX6, "house", "(III)I"⟩
abbrev cX6_prior : ByteArray := prog_8_method_6_code
def yX6_prior : MethodName := ⟨RX6, "prior", "(IIIII)I"⟩
abbrev cX6_lowOf : ByteArray := prog_8_method_7_code
def yX6_lowOf : MethodName := ⟨RX6, "lowOf", "(II)I"⟩
abbrev cX6_highOf : ByteArray := prog_8_method_8_code
def yX6_highOf : MethodName := ⟨RX6, "highOf", "(II)I"⟩
abbrev cX6_day : ByteArray := prog_8_method_9_code
def yX6_day : MethodName := ⟨RX6, "day", "(I)I"⟩
abbrev cX6_isDue : ByteArray := prog_8_method_10_code
def yX6_isDue : MethodName := ⟨RX6, "isDue", "(I)Z"⟩
abbrev cX6_due : ByteArray := prog_8_method_11_code
def yX6_due : MethodName := ⟨RX6, "due", "()I"⟩
abbrev cX6_look : ByteArray := prog_8_method_12_code
def yX6_look : MethodName := ⟨RX6, "look", "(II)I"⟩
abbrev cX6_told : ByteArray := prog_8_method_13_code
def yX6_told : MethodName := ⟨RX6, "told", "(II)I"⟩
abbrev cX6_lasts : ByteArray := prog_8_method_14_code
def yX6_lasts : MethodName := ⟨RX6, "lasts", "(II)I"⟩
abbrev cX6_stock : ByteArray := prog_8_method_15_code
def yX6_stock : MethodName := ⟨RX6, "stock", "(I)I"⟩
abbrev cX6_lorry : ByteArray := prog_8_method_16_code
def yX6_lorry : MethodName := ⟨RX6, "lorry", "(I)I"⟩
abbrev cX6_canGo : ByteArray := prog_8_method_17_code
def yX6_canGo : MethodName := ⟨RX6, "canGo", "(I)I"⟩
abbrev cX6_calls : ByteArray := prog_8_method_18_code
def yX6_calls : MethodName := ⟨RX6, "calls", "()I"⟩
abbrev cX6_isSet : ByteArray := prog_8_method_19_code
def yX6_isSet : MethodName := ⟨RX6, "isSet", "(I)Z"⟩
abbrev cX6_size : ByteArray := prog_8_method_20_code
def yX6_size : MethodName := ⟨RX6, "size", "(I)I"⟩
abbrev cX6_fromDepot : ByteArray := prog_8_method_21_code
def yX6_fromDepot : MethodName := ⟨RX6, "fromDepot", "(I)I"⟩
abbrev cX6_between : ByteArray := prog_8_method_22_code
def yX6_between : MethodName := ⟨RX6, "between", "(II)I"⟩
abbrev cX6_findWays : ByteArray := prog_8_method_23_code
def yX6_findWays : MethodName := ⟨RX6, "findWays", "()V"⟩
abbrev cX6_nextOf : ByteArray := prog_8_method_24_code
def yX6_nextOf : MethodName := ⟨RX6, "nextOf", "(II)I"⟩
abbrev cX6_round : ByteArray := prog_8_method_25_code
def yX6_round : MethodName := ⟨RX6, "round", "(II)I"⟩
abbrev cX6_stop : ByteArray := prog_8_method_26_code
def yX6_stop : MethodName := ⟨RX6, "stop", "(II)I"⟩
abbrev cX6_most : ByteArray := prog_8_method_27_code
def yX6_most : MethodName := ⟨RX6, "most", "(II)I"⟩
abbrev cX6_least : ByteArray := prog_8_method_28_code
def yX6_least : MethodName := ⟨RX6, "least", "(II)I"⟩
abbrev cX6_roundedUp : ByteArray := prog_8_method_29_code
def yX6_roundedUp : MethodName := ⟨RX6, "roundedUp", "(II)I"⟩
abbrev cX6_cut : ByteArray := prog_8_method_30_code
def yX6_cut : MethodName := ⟨RX6, "cut", "(II)I"⟩
abbrev cX6_makeNarrower : ByteArray := prog_8_method_31_code
def yX6_makeNarrower : MethodName := ⟨RX6, "makeNarrower", "(II)V"⟩
abbrev cX6_cost : ByteArray := prog_8_method_32_code
def yX6_cost : MethodName := ⟨RX6, "cost", "(II)I"⟩
abbrev cX6_fill : ByteArray := prog_8_method_33_code
def yX6_fill : MethodName := ⟨RX6, "fill", "(II)I"⟩
abbrev cX6_price : ByteArray := prog_8_method_34_code
def yX6_price : MethodName := ⟨RX6, "price", "(I)I"⟩
abbrev cX6_quote : ByteArray := prog_8_method_35_code
def yX6_quote : MethodName := ⟨RX6, "quote", "(II)I"⟩
abbrev cX6_feed : ByteArray := prog_8_method_36_code
def yX6_feed : MethodName := ⟨RX6, "feed", "(JI)I"⟩
abbrev cX6_byteAt : ByteArray := prog_8_method_37_code
def yX6_byteAt : MethodName := ⟨RX6, "byteAt", "(I)I"⟩
abbrev cX6_isLetter : ByteArray := prog_8_method_38_code
def yX6_isLetter : MethodName := ⟨RX6, "isLetter", "(I)Z"⟩
abbrev cX6_isFigure : ByteArray := prog_8_method_39_code
def yX6_isFigure : MethodName := ⟨RX6, "isFigure", "(I)Z"⟩
abbrev cX6_step : ByteArray := prog_8_method_40_code
def yX6_step : MethodName := ⟨RX6, "step", "()V"⟩
abbrev cX6_bad : ByteArray := prog_8_method_41_code
def yX6_bad : MethodName := ⟨RX6, "bad", "(I)V"⟩
abbrev cX6_take : ByteArray := prog_8_method_42_code
def yX6_take : MethodName := ⟨RX6, "take", "(Z)V"⟩
abbrev cX6_is : ByteArray := prog_8_method_43_code
def yX6_is : MethodName := ⟨RX6, "is", "(I)Z"⟩
abbrev cX6_name : ByteArray := prog_8_method_44_code
def yX6_name : MethodName := ⟨RX6, "name", "()J"⟩
abbrev cX6_number : ByteArray := prog_8_method_45_code
def yX6_number : MethodName := ⟨RX6, "number", "()I"⟩
abbrev cX6_readOne : ByteArray := prog_8_method_46_code
def yX6_readOne : MethodName := ⟨RX6, "readOne", "()V"⟩
abbrev cX6_plans : ByteArray := prog_8_method_47_code
def yX6_plans : MethodName := ⟨RX6, "plans", "()I"⟩
abbrev cX6_fault : ByteArray := prog_8_method_48_code
def yX6_fault : MethodName := ⟨RX6, "fault", "()I"⟩
abbrev cX6_kindOf : ByteArray := prog_8_method_49_code
def yX6_kindOf : MethodName := ⟨RX6, "kindOf", "(I)I"⟩
abbrev cX6_kind : ByteArray := prog_8_method_50_code
def yX6_kind : MethodName := ⟨RX6, "kind", "(I)I"⟩
abbrev cX6_as : ByteArray := prog_8_method_51_code
def yX6_as : MethodName := ⟨RX6, "as", "(II)I"⟩
abbrev cX6_began : ByteArray := prog_8_method_52_code
def yX6_began : MethodName := ⟨RX6, "began", "(I)V"⟩
abbrev cX6_weight : ByteArray := prog_8_method_53_code
def yX6_weight : MethodName := ⟨RX6, "weight", "(I)I"⟩
abbrev cX6_marked : ByteArray := prog_8_method_54_code
def yX6_marked : MethodName := ⟨RX6, "marked", "(I)I"⟩
abbrev cX6_ask : ByteArray := prog_8_method_55_code
def yX6_ask : MethodName := ⟨RX6, "ask", "(II)I"⟩
abbrev cX6_trace : ByteArray := prog_8_method_56_code
def yX6_trace : MethodName := ⟨RX6, "trace", "(I)I"⟩
abbrev cX6_count : ByteArray := prog_8_method_57_code
def yX6_count : MethodName := ⟨RX6, "count", "(I)J"⟩
def RJ6 : String := "java/lang/Integer"
def TJ6 : u_T := fun k => match k with
  | _ => ("", "", "", false)
def tyJ6 : Nat → FieldType := fun k => match k with
  | _ => .int
theorem nmJ6 : ∀ a, a < 0 → ∀ b, b < 0 → a ≠ b → (TJ6 a).2.1 ≠ (TJ6 b).2.1 := by decide +kernel
theorem tyJ6_ok : ∀ k, k < 0 → parseFieldDescriptor (TJ6 k).2.2.1 = some (tyJ6 k) := by decide +kernel
abbrev cJ6_bitCount_0f7a4 : ByteArray := prog_9_method_49_code
def yJ6_bitCount_0f7a4 : MethodName := ⟨RJ6, "bitCount", "(I)I"⟩
def RJ9 : String := "java/lang/Math"
def TJ9 : u_T := fun k => match k with
  | _ => ("", "", "", false)
def tyJ9 : Nat → FieldType := fun k => match k with
  | _ => .int
theorem nmJ9 : ∀ a, a < 0 → ∀ b, b < 0 → a ≠ b → (TJ9 a).2.1 ≠ (TJ9 b).2.1 := by decide +kernel
theorem tyJ9_ok : ∀ k, k < 0 → parseFieldDescriptor (TJ9 k).2.2.1 = some (tyJ9 k) := by decide +kernel
abbrev cJ9_floorDiv_7cf53 : ByteArray := prog_10_method_47_code
def yJ9_floorDiv_7cf53 : MethodName := ⟨RJ9, "floorDiv", "(II)I"⟩
abbrev cJ9_abs_0f7a4 : ByteArray := prog_10_method_59_code
def yJ9_abs_0f7a4 : MethodName := ⟨RJ9, "abs", "(I)I"⟩
abbrev cJ9_max_7cf53 : ByteArray := prog_10_method_65_code
def yJ9_max_7cf53 : MethodName := ⟨RJ9, "max", "(II)I"⟩
abbrev cJ9_min_7cf53 : ByteArray := prog_10_method_69_code
def yJ9_min_7cf53 : MethodName := ⟨RJ9, "min", "(II)I"⟩
def RJ0 : String := "java/lang/String"
def TJ0 : u_T := fun k => match k with
  | _ => ("", "", "", false)
def tyJ0 : Nat → FieldType := fun k => match k with
  | _ => .int
theorem nmJ0 : ∀ a, a < 0 → ∀ b, b < 0 → a ≠ b → (TJ0 a).2.1 ≠ (TJ0 b).2.1 := by decide +kernel
theorem tyJ0_ok : ∀ k, k < 0 → parseFieldDescriptor (TJ0 k).2.2.1 = some (tyJ0 k) := by decide +kernel
abbrev cJ0_length_8abf5 : ByteArray := prog_11_method_54_code
def yJ0_length_8abf5 : MethodName := ⟨RJ0, "length", "()I"⟩
abbrev cJ0_charAt_5068e : ByteArray := prog_11_method_56_code
def yJ0_charAt_5068e : MethodName := ⟨RJ0, "charAt", "(I)C"⟩
abbrev cJ0_coder_7d493 : ByteArray := prog_11_method_152_code
def yJ0_coder_7d493 : MethodName := ⟨RJ0, "coder", "()B"⟩
abbrev cJ0_isLatin1_aae02 : ByteArray := prog_11_method_154_code
def yJ0_isLatin1_aae02 : MethodName := ⟨RJ0, "isLatin1", "()Z"⟩
abbrev cJ0_checkIndex_df160 : ByteArray := prog_11_method_155_code
def yJ0_checkIndex_df160 : MethodName := ⟨RJ0, "checkIndex", "(II)V"⟩
def RJ1 : String := "java/lang/StringLatin1"
def TJ1 : u_T := fun k => match k with
  | _ => ("", "", "", false)
def tyJ1 : Nat → FieldType := fun k => match k with
  | _ => .int
theorem nmJ1 : ∀ a, a < 0 → ∀ b, b < 0 → a ≠ b → (TJ1 a).2.1 ≠ (TJ1 b).2.1 := by decide +kernel
theorem tyJ1_ok : ∀ k, k < 0 → parseFieldDescriptor (TJ1 k).2.2.1 = some (tyJ1 k) := by decide +kernel
abbrev cJ1_charAt_3b067 : ByteArray := prog_12_method_2_code
def yJ1_charAt_3b067 : MethodName := ⟨RJ1, "charAt", "([BI)C"⟩
def RJ2 : String := "java/lang/StringUTF16"
def TJ2 : u_T := fun k => match k with
  | _ => ("", "", "", false)
def tyJ2 : Nat → FieldType := fun k => match k with
  | _ => .int
theorem nmJ2 : ∀ a, a < 0 → ∀ b, b < 0 → a ≠ b → (TJ2 a).2.1 ≠ (TJ2 b).2.1 := by decide +kernel
theorem tyJ2_ok : ∀ k, k < 0 → parseFieldDescriptor (TJ2 k).2.2.1 = some (tyJ2 k) := by decide +kernel
abbrev cJ2_getChar_3b067 : ByteArray := prog_13_method_5_code
def yJ2_getChar_3b067 : MethodName := ⟨RJ2, "getChar", "([BI)C"⟩
abbrev cJ2_length_9d52b : ByteArray := prog_13_method_6_code
def yJ2_length_9d52b : MethodName := ⟨RJ2, "length", "([B)I"⟩
abbrev cJ2_charAt_3b067 : ByteArray := prog_13_method_83_code
def yJ2_charAt_3b067 : MethodName := ⟨RJ2, "charAt", "([BI)C"⟩
abbrev cJ2_checkIndex_2214a : ByteArray := prog_13_method_91_code
def yJ2_checkIndex_2214a : MethodName := ⟨RJ2, "checkIndex", "(I[B)V"⟩
def RJ3 : String := "jdk/internal/util/Preconditions"
def TJ3 : u_T := fun k => match k with
  | _ => ("", "", "", false)
def tyJ3 : Nat → FieldType := fun k => match k with
  | _ => .int
theorem nmJ3 : ∀ a, a < 0 → ∀ b, b < 0 → a ≠ b → (TJ3 a).2.1 ≠ (TJ3 b).2.1 := by decide +kernel
theorem tyJ3_ok : ∀ k, k < 0 → parseFieldDescriptor (TJ3 k).2.2.1 = some (tyJ3 k) := by decide +kernel
abbrev cJ3_checkIndex_8e157 : ByteArray := prog_14_method_11_code
def yJ3_checkIndex_8e157 : MethodName := ⟨RJ3, "checkIndex", "(IILjava/util/function/BiFunction;)I"⟩
def RL : String := "OilRoundLaw"
abbrev cL_law : ByteArray := code
def yL_law : MethodName := ⟨RL, "law", "([I)Z"⟩
abbrev vwCl : List vw_C := [(RX0, TX0, 2), (RX1, TX1, 15), (RX2, TX2, 3), (RX3, TX3, 12), (RX4, TX4, 7), (RX5, TX5, 14), (RX6, TX6, 45)]
end
section
def oWL : List Cond := lw_tbl.filter goodWord
theorem oWL_t {n : Nat} {w : Cond} (h : tables_1[n]? = some w) (hg : goodWord w = true) : w ∈ oWL := List.mem_filter.mpr ⟨List.mem_append_right _ (List.mem_of_getElem? h), hg⟩
theorem oWL_p {n : Nat} {w : Cond} (h : (k2_sels lw_privs)[n]? = some w) (hg : goodWord w = true) : w ∈ oWL := List.mem_filter.mpr ⟨List.mem_append_left _ (List.mem_of_getElem? h), hg⟩
theorem u_lay_good (C : String) (T : u_T) (k : Nat) : goodWord (u_lay C T k) = true := by
  unfold u_lay
  split <;> rfl
theorem oWL_lays {C : String} {T : u_T} {N b : Nat} (h : ∀ k, k < N → tables_1[b + 2 * k]? = some (u_lay C T k)) : ∀ w ∈ u_ws C T N, w ∈ oWL := by
  intro w hw
  obtain ⟨k, hk, rfl⟩ := List.mem_map.mp hw
  exact oWL_t (h k (List.mem_range.mp hk)) (u_lay_good C T k)
theorem inlX0 : ∀ w ∈ u_ws RX0 TX0 2, w ∈ oWL := oWL_lays (b := 107) (by decide +kernel)
theorem inlX1 : ∀ w ∈ u_ws RX1 TX1 15, w ∈ oWL := oWL_lays (b := 220) (by decide +kernel)
theorem inlX2 : ∀ w ∈ u_ws RX2 TX2 3, w ∈ oWL := oWL_lays (b := 178) (by decide +kernel)
theorem inlX3 : ∀ w ∈ u_ws RX3 TX3 12, w ∈ oWL := oWL_lays (b := 73) (by decide +kernel)
theorem inlX4 : ∀ w ∈ u_ws RX4 TX4 7, w ∈ oWL := oWL_lays (b := 37) (by decide +kernel)
theorem inlX5 : ∀ w ∈ u_ws RX5 TX5 14, w ∈ oWL := oWL_lays (b := 126) (by decide +kernel)
theorem inlX6 : ∀ w ∈ u_ws RX6 TX6 45, w ∈ oWL := oWL_lays (b := 720) (by decide +kernel)
/-! the abstract machine: ids for the cells that the run makes (id i lies at the address B + i), a heap by numbers, and the judgement of a state of a method -/
abbrev oG : Type := Nat × va_G × (Nat → ClassId) × (Nat → Nat) × (Nat → Nat)
abbrev oH : Type := Nat × (Nat → Nat → Int32) × (Nat → Nat → Int64) × (Nat → Nat → Option Nat)
def hI (h : oH) (a k : Nat) : Int32 := h.2.1 a k
def hJ (h : oH) (a k : Nat) : Int64 := h.2.2.1 a k
def hR (h : oH) (a k : Nat) : Option Nat := h.2.2.2 a k
def sI (h : oH) (a k : Nat) (v : Int32) : oH := (h.1, fun x y => if x = a ∧ y = k then v else h.2.1 x y, h.2.2.1, h.2.2.2)
def sJ (h : oH) (a k : Nat) (v : Int64) : oH := (h.1, h.2.1, fun x y => if x = a ∧ y = k then v else h.2.2.1 x y, h.2.2.2)
def sR (h : oH) (a k : Nat) (v : Option Nat) : oH := (h.1, h.2.1, h.2.2.1, fun x y => if x = a ∧ y = k then v else h.2.2.2 x y)
def hAl (h : oH) : oH := (h.1 + 1, fun x y => if x = h.1 then 0 else h.2.1 x y, fun x y => if x = h.1 then 0 else h.2.2.1 x y, fun x y => if x = h.1 then none else h.2.2.2 x y)
theorem hI_sI (h : oH) (a k x y : Nat) (v : Int32) : hI (sI h a k v) x y = if x = a ∧ y = k then v else hI h x y := rfl
theorem hI_sJ (h : oH) (a k x y : Nat) (v : Int64) : hI (sJ h a k v) x y = hI h x y := rfl
theorem hI_sR (h : oH) (a k x y : Nat) (v : Option Nat) : hI (sR h a k v) x y = hI h x y := rfl
theorem hJ_sI (h : oH) (a k x y : Nat) (v : Int32) : hJ (sI h a k v) x y = hJ h x y := rfl
theorem hJ_sJ (h : oH) (a k x y : Nat) (v : Int64) : hJ (sJ h a k v) x y = if x = a ∧ y = k then v else hJ h x y := rfl
theorem hJ_sR (h : oH) (a k x y : Nat) (v : Option Nat) : hJ (sR h a k v) x y = hJ h x y := rfl
theorem hR_sI (h : oH) (a k x y : Nat) (v : Int32) : hR (sI h a k v) x y = hR h x y := rfl
theorem hR_sJ (h : oH) (a k x y : Nat) (v : Int64) : hR (sJ h a k v) x y = hR h x y := rfl
theorem hR_sR (h : oH) (a k x y : Nat) (v : Option Nat) : hR (sR h a k v) x y = if x = a ∧ y = k then v else hR h x y := rfl
theorem n_sI (h : oH) (a k : Nat) (v : Int32) : (sI h a k v).1 = h.1 := rfl
theorem n_sJ (h : oH) (a k : Nat) (v : Int64) : (sJ h a k v).1 = h.1 := rfl
theorem n_sR (h : oH) (a k : Nat) (v : Option Nat) : (sR h a k v).1 = h.1 := rfl
/-- kinds of cells: (0, class), (1, length) ints, (2, length) bytes, (3, length) booleans, (4, length) houses -/
def tgT : List (Nat × Nat) := [(0, 5), (4, 24), (0, 4), (1, 8), (1, 9), (1, 9), (1, 8), (1, 2304), (0, 3), (2, 300), (0, 0), (1, 16), (0, 6), (1, 24), (1, 24), (1, 24), (1, 96), (1, 24), (1, 24), (1, 24), (1, 24), (3, 24), (1, 24), (1, 24), (1, 24), (1, 24), (1, 24), (1, 8), (1, 2048), (1, 300), (1, 40), (1, 40), (1, 40), (1, 40), (1, 16)]
def tg (i : Nat) : Nat × Nat := if i < 35 then tgT.getD i (0, 0) else if i % 2 = 1 then (0, 1) else (0, 2)
theorem tg_house (i : Nat) : tg (35 + 2 * i) = (0, 1) := by
  unfold tg
  rw [if_neg (by omega), if_pos (by omega)]
theorem tg_plan (i : Nat) : tg (36 + 2 * i) = (0, 2) := by
  unfold tg
  rw [if_neg (by omega), if_neg (by omega)]
def nf (ci : Nat) : Nat := [2, 15, 3, 12, 7, 14, 45].getD ci 0
def tyC (ci : Nat) : Nat → FieldType := match ci with
  | 0 => tyX0
  | 1 => tyX1
  | 2 => tyX2
  | 3 => tyX3
  | 4 => tyX4
  | 5 => tyX5
  | _ => tyX6
def szT (t : Nat × Nat) : Nat := if t.1 = 0 then nf t.2 else t.2
def sl : Nat → Nat
  | 0 => 0
  | n + 1 => sl n + szT (tg n)
theorem sl_mono {a b : Nat} (h : a ≤ b) : sl a ≤ sl b := by
  induction b with
  | zero => rw [Nat.le_zero.mp h]; exact Nat.le_refl _
  | succ b ih =>
    by_cases hb : a = b + 1
    · rw [hb]; exact Nat.le_refl _
    · exact Nat.le_trans (ih (by omega)) (Nat.le_add_right _ _)
/-- a value as the machine has it: ids as addresses; a text's id rides on a float -/
def oV (G : oG) : Value → Value
  | .ref i => .ref (G.1 + i)
  | .float k => .ref (if k.toNat < 100 then G.2.2.2.1 k.toNat else G.2.2.2.2 (k.toNat - 100))
  | v => v
def fv (G : oG) (ci : Nat) (h : oH) (a k : Nat) : Value := match tyC ci k with
  | .long => .long (hJ h a k)
  | .object _ => va_rf ((hR h a k).map (fun i => G.1 + i))
  | .array _ => va_rf ((hR h a k).map (fun i => G.1 + i))
  | _ => .int (hI h a k)
def oEk (G : oG) (h : oH) (a : Nat) (t : Nat × Nat) : va_E := match t with
  | (0, ci) => .inr (ci, (List.range (nf ci)).map (fv G ci h a))
  | (1, n) => .inl (G.2.2.1 0, n, .inl (hI h a))
  | (2, n) => .inl (G.2.2.1 1, n, .inl (hI h a))
  | (3, n) => .inl (G.2.2.1 2, n, .inl (hI h a))
  | (_, n) => .inl (G.2.2.1 3, n, .inr (.inr (.inr (.inr (fun j => (hR h a j).map (fun i => G.1 + i))))))
def oE (G : oG) (h : oH) (a : Nat) : va_E := oEk G h a (tg a)
def oWs (G : oG) (h : oH) : va_W := (List.range h.1).map (fun a => (G.1 + a, oE G h a))
def oTys (G : oG) : List (ClassId × FieldType) := [(G.2.2.1 0, .int), (G.2.2.1 1, .byte), (G.2.2.1 2, .boolean), (G.2.2.1 3, .object "OilRound$House")]
theorem oWs_get {G : oG} {h : oH} {a : Nat} (ha : a < h.1) : (oWs G h)[a]? = some (G.1 + a, oE G h a) := by
  unfold oWs
  rw [List.getElem?_map, List.getElem?_range ha]
  rfl
theorem oWs_len (G : oG) (h : oH) : (oWs G h).length = h.1 := by
  unfold oWs
  rw [List.length_map, List.length_range]
theorem oWs_set {G : oG} {h h' : oH} {a : Nat} (hn : h'.1 = h.1) (ho : ∀ j, j ≠ a → oE G h' j = oE G h j) {e : va_E} (he : e = oE G h' a) : (oWs G h).set a (G.1 + a, e) = oWs G h' := by
  subst he
  apply List.ext_getElem?
  intro j
  by_cases hj : j < h.1
  · rw [oWs_get (h := h') (by rw [hn]; exact hj)]
    by_cases hja : a = j
    · subst hja
      rw [List.getElem?_set_self (by rw [oWs_len]; exact hj)]
    · rw [List.getElem?_set_ne hja, oWs_get hj, ho j (fun q => hja q.symm)]
  · rw [List.getElem?_eq_none (by rw [List.length_set, oWs_len]; omega), List.getElem?_eq_none (by rw [oWs_len, hn]; omega)]
theorem oE_ext {G : oG} {h h' : oH} {a : Nat} (hi : ∀ k, hI h' a k = hI h a k) (hj : ∀ k, hJ h' a k = hJ h a k) (hr : ∀ k, hR h' a k = hR h a k) : oE G h' a = oE G h a := by
  have e1 : hI h' a = hI h a := funext hi
  have e2 : ∀ ci, fv G ci h' a = fv G ci h a := fun ci => funext fun k => by simp only [fv, hi, hj, hr]
  unfold oE
  generalize tg a = t
  unfold oEk
  split <;> simp only [e1, e2, hr]
theorem oWs_push {G : oG} {h : oH} {e : va_E} (he : e = oE G (hAl h) h.1) : oWs G h ++ [(G.1 + h.1, e)] = oWs G (hAl h) := by
  subst he
  unfold oWs
  show _ = (List.range (h.1 + 1)).map _
  rw [List.range_succ, List.map_append]
  congr 1
  refine List.map_congr_left fun a ha => ?_
  have hl : a ≠ h.1 := Nat.ne_of_lt (List.mem_range.mp ha)
  rw [oE_ext (G := G) (h := h) (h' := hAl h) (a := a) (fun k => if_neg hl) (fun k => if_neg hl) (fun k => if_neg hl)]
theorem oWs_D (G : oG) (h : oH) : va_D (fun q => G.1 ≤ q) (oWs G h) := by
  have key : ∀ (i : Nat) (p : Nat × va_E), (oWs G h)[i]? = some p → p.1 = G.1 + i := by
    intro i p hp
    have hl : i < h.1 := by
      have := (List.getElem?_eq_some_iff.mp hp).1
      rwa [oWs_len] at this
    rw [oWs_get hl] at hp
    cases hp
    rfl
  refine ⟨fun i j p q hp hq he => ?_, fun k q hq => ?_⟩
  · have e1 := key i p hp
    have e2 := key j q hq
    omega
  · have e1 := key k q hq
    show G.1 ≤ q.1
    omega
/-- what the texts and the JDK's statics are -/
def oX (G : oG) (U : State) (H : Heap) : Prop :=
  vk_S 4 [5, 3, 3, 4] [[104, 111, 117, 115, 101], [100, 97, 121], [99, 97, 112], [112, 97, 105, 100]] G.2.2.2.1 G.2.2.2.2 (fun q => G.1 ≤ q) U H ∧
  va_Z "java/lang/String" "COMPACT_STRINGS" "Z" (.int 1) (fun q => G.1 ≤ q) U H ∧
  va_Zq "jdk/internal/util/Preconditions" "SIOOBE_FORMATTER" "Ljava/util/function/BiFunction;" (fun q => G.1 ≤ q) U H
def oNestL : List (String × Nat × MethodName) := [("OilRound", 17, ⟨"OilRound$Route", "<init>", "()V"⟩), ("OilRound", 24, ⟨"OilRound$PlanText", "<init>", "()V"⟩), ("OilRound", 31, ⟨"OilRound$Asks", "<init>", "()V"⟩), ("OilRound$House", 11, ⟨"OilRound$Plan", "<init>", "()V"⟩), ("OilRound$Route", 50, ⟨"OilRound", "houseIn", "([LOilRound$House;I)LOilRound$House;"⟩), ("OilRound$Route", 78, ⟨"OilRound", "isOutside", "(III)Z"⟩), ("OilRound$PlanText", 79, ⟨"OilRound", "houseIn", "([LOilRound$House;I)LOilRound$House;"⟩)]
def oXR (G : oG) (U : State) : Prop := vk_R RX3 104 "house" (G.2.2.2.1 0) U ∧ vk_R RX3 110 "day" (G.2.2.2.1 1) U ∧ vk_R RX3 112 "cap" (G.2.2.2.1 2) U ∧ vk_R RX3 114 "paid" (G.2.2.2.1 3) U ∧ va_AO "OilRound$House" U ∧ ∀ q ∈ oNestL, va_Nw (.methodLinkNest q.1 q.2.1 q.2.2 "OilRound") U
theorem oX.moved {G : oG} {u U : State} {H : Heap} (hvm : u.vm.Alike U.vm) (h : oX G u H) : oX G U H := by
  obtain ⟨h1, h2, h3⟩ := h
  exact ⟨h1.moved hvm, h2.moved hvm, h3.moved hvm⟩
theorem oX.kept {G : oG} {U : State} {H H1 : Heap} (h : oX G U H) (hq : ∀ a : Nat, a < H.size → ¬ G.1 ≤ a → H1[a]? = H[a]?) : oX G U H1 := by
  obtain ⟨h1, h2, h3⟩ := h
  exact ⟨h1.kept hq, h2.kept hq, h3.kept hq⟩
theorem oXR.same {G : oG} {u U : State} (hv : U.vm = u.vm) (h : oXR G u) : oXR G U := ⟨h.1.same hv, h.2.1.same hv, h.2.2.1.same hv, h.2.2.2.1.same hv, va_AO.moved (by rw [hv]; exact Vm.Alike.refl _) h.2.2.2.2.1, fun q hq => va_Nw.same rfl hv.symm (h.2.2.2.2.2 q hq)⟩
theorem oXR.warm {G : oG} {s U : State} (hW : s.WarmedH U.vm) (h : oXR G s) : oXR G U := ⟨h.1.warm hW, h.2.1.warm hW, h.2.2.1.warm hW, h.2.2.2.1.warm hW, va_AO.moved hW.alike h.2.2.2.2.1, fun q hq => va_Nw.warmM hW (h.2.2.2.2.2 q hq)⟩
/-- a whole state of the world holds the abstract heap -/
def oRep (G : oG) (h : oH) (U : State) : Prop := va_P G.2.1 vwCl (oWs G h) U.heap ∧ U.heap.size = G.1 + h.1 ∧ va_K G.2.1 vwCl (oTys G) U ∧ oX G U U.heap ∧ oXR G U
theorem oRep.calling {G : oG} {h : oH} {U : State} (q : oRep G h U) (g : JFrame) (mk : MethodId) (a : Array Value) : oRep G h (U.calling g mk a) := by
  obtain ⟨h1, h2, h3, h4, h5⟩ := q
  exact ⟨h1, h2, va_K.moved (u := U) (U := U.calling g mk a) (Vm.Alike.refl U.vm) h3, oX.moved (u := U) (U := U.calling g mk a) (Vm.Alike.refl U.vm) h4, oXR.same (u := U) (U := U.calling g mk a) rfl h5⟩
/-- a method: its name, code, locals, answer; the frames and the words of locals that it needs -/
abbrev oM : Type := MethodName × ByteArray × Nat × Option FieldType × Nat × Nat
def oW (M : oM) : List Cond := Cond.code M.1 M.2.1 M.2.2.1 M.2.2.2.1 :: oWL
def oR (M : oM) (mc ms : Nat) : Room := { frames := M.2.2.2.2.1, cells := mc, slots := ms, locals := M.2.2.2.2.2 }
/-- what stays through a method's walk -/
def oC (G : oG) (M : oM) (n0 nF : Nat) (p : Program) (l : Launch) (R : Room) (s : State) (m : MethodId) (args : Array Value) (meth : Method) (c : Code) : Prop :=
  p.tables.exec = Jvm.exec ∧ c.code = M.2.1 ∧ meth.sig.returnType = M.2.2.2.1 ∧ c.maxLocals = M.2.2.1 ∧ s.vm.findClass M.1.cls = some m.cls ∧ (∀ w ∈ oWL, w.before args s = true) ∧ meth.locks = false ∧ meth.name = M.1.name ∧
  va_K G.2.1 vwCl (oTys G) s ∧ oX G s s.heap ∧ oXR G s ∧ G.1 ≤ s.heap.size ∧ M.2.2.2.2.1 ≤ R.frames ∧ M.2.2.2.2.2 ≤ R.locals ∧ nF - n0 ≤ R.cells ∧ sl nF - sl n0 ≤ R.slots
def oL (G : oG) (ls : Array Slot) (n : Nat) (L : List (Option Value)) : Prop := ls.size = n ∧ lv_wf ls ∧ ∀ (i : Nat) (v : Value), L[i]? = some (some v) → ls[i]? = some (.val (oV G v))
def oS (G : oG) (M : oM) (p : Program) (l : Launch) (e : Env) (R : Room) (s : State) (m : MethodId) (args : Array Value) (below : List Frame) (meth : Method) (c : Code) (Z : State → Prop) (n0 : Nat) (pc : Nat) (L : List (Option Value)) (S : List Value) (h : oH) : Prop :=
  ∀ (H : Heap) (locs : List Loc) (ls : Array Slot), va_S (fun q => G.1 ≤ q) s.heap H locs → va_P G.2.1 vwCl (oWs G h) H → H.size = G.1 + h.1 → n0 ≤ h.1 → oL G ls M.2.2.1 L →
    W p l e R s m args below meth c H locs (h.1 - n0) (sl h.1 - sl n0) Z (F0 m pc ls (S.map (oV G)))
/-- the list of pairs of what the locals hold -/
def oLs (G : oG) (L : List (Option Value)) : List (Nat × Value) := (List.range L.length).filterMap (fun i => match L[i]? with
  | some (some v) => some (i, oV G v)
  | _ => none)
theorem oLs_mem {G : oG} {L : List (Option Value)} {i : Nat} {w : Value} : (i, w) ∈ oLs G L ↔ ∃ v, L[i]? = some (some v) ∧ w = oV G v := by
  unfold oLs
  constructor
  · intro h
    obtain ⟨j, -, hj⟩ := List.mem_filterMap.mp h
    split at hj
    · rename_i v hv
      cases hj
      exact ⟨v, hv, rfl⟩
    · cases hj
  · rintro ⟨v, hv, rfl⟩
    refine List.mem_filterMap.mpr ⟨i, List.mem_range.mpr (List.getElem?_eq_some_iff.mp hv).1, ?_⟩
    rw [hv]
theorem oL.has {G : oG} {ls : Array Slot} {n : Nat} {L : List (Option Value)} (h : oL G ls n L) : lv_has ls n (oLs G L) := ⟨h.1, h.2.1, fun q hq => by
  obtain ⟨v, h1, h2⟩ := oLs_mem.mp hq
  rw [h2]
  exact h.2.2 _ _ h1⟩
/-- storing a value of one slot: no value of two slots may end there -/
def oOk (L : List (Option Value)) (i : Nat) : Bool := match i with
  | 0 => true
  | j + 1 => match L[j]? with
    | some (some v) => v.category == 1
    | _ => true
theorem oV_cat (G : oG) (v : Value) (h : v.category = 1) : (oV G v).category = 1 := by cases v <;> first | rfl | (simp [Value.category] at h)
theorem oL.store1 {G : oG} {ls' : Array Slot} {n i : Nat} {v : Value} {L : List (Option Value)} (hok : oOk L i = true)
    (h : lv_has ls' n ((i, oV G v) :: (oLs G L).filter (fun q => !(q.1 == i) && !(q.1 + 1 == i && q.2.category == 2)))) : oL G ls' n (L.set i (some v)) := by
  refine ⟨h.1, h.2.1, fun j w hj => ?_⟩
  by_cases hji : i = j
  · subst hji
    have hl : i < L.length := by
      have := (List.getElem?_eq_some_iff.mp hj).1
      rwa [List.length_set] at this
    rw [List.getElem?_set_self hl] at hj
    cases hj
    exact h.2.2 _ List.mem_cons_self
  · rw [List.getElem?_set_ne hji] at hj
    refine h.2.2 (j, oV G w) (List.mem_cons_of_mem _ (List.mem_filter.mpr ⟨oLs_mem.mpr ⟨w, hj, rfl⟩, ?_⟩))
    simp only [Bool.and_eq_true, Bool.not_eq_true', beq_eq_false_iff_ne, ne_eq, Bool.and_eq_false_iff]
    refine ⟨fun q => hji q.symm, ?_⟩
    by_cases hq : j + 1 = i
    · subst hq
      right
      simp only [oOk, hj, beq_iff_eq] at hok
      rw [oV_cat G w hok]
      decide
    · exact Or.inl hq
theorem oL.store2 {G : oG} {ls' : Array Slot} {n i : Nat} {v : Value} {L : List (Option Value)} (hok : oOk L i = true)
    (h : lv_has ls' n ((i, oV G v) :: (oLs G L).filter (fun q => !(q.1 == i) && (!(q.1 == i + 1) && !(q.1 + 1 == i && q.2.category == 2))))) : oL G ls' n ((L.set i (some v)).set (i + 1) none) := by
  refine ⟨h.1, h.2.1, fun j w hj => ?_⟩
  by_cases hj1 : i + 1 = j
  · subst hj1
    have hl : i + 1 < (L.set i (some v)).length := by
      have := (List.getElem?_eq_some_iff.mp hj).1
      rwa [List.length_set] at this
    rw [List.getElem?_set_self hl] at hj
    cases hj
  · rw [List.getElem?_set_ne hj1] at hj
    by_cases hji : i = j
    · subst hji
      have hl : i < L.length := by
        have := (List.getElem?_eq_some_iff.mp hj).1
        rwa [List.length_set] at this
      rw [List.getElem?_set_self hl] at hj
      cases hj
      exact h.2.2 _ List.mem_cons_self
    · rw [List.getElem?_set_ne hji] at hj
      refine h.2.2 (j, oV G w) (List.mem_cons_of_mem _ (List.mem_filter.mpr ⟨oLs_mem.mpr ⟨w, hj, rfl⟩, ?_⟩))
      simp only [Bool.and_eq_true, Bool.not_eq_true', beq_eq_false_iff_ne, ne_eq, Bool.and_eq_false_iff]
      refine ⟨fun q => hji q.symm, fun q => hj1 q.symm, ?_⟩
      by_cases hq : j + 1 = i
      · subst hq
        right
        simp only [oOk, hj, beq_iff_eq] at hok
        rw [oV_cat G w hok]
        decide
      · exact Or.inl hq

def oIsR : Value → Bool
  | .ref _ => true
  | .null => true
  | .float _ => true
  | _ => false
section ORULES
variable {G : oG} {M : oM} {p : Program} {l : Launch} {e : Env} {R : Room} {s : State} {m : MethodId} {args : Array Value} {below : List Frame} {meth : Method} {c : Code} {Z : State → Prop} {n0 nF pc : Nat} {L : List (Option Value)} {S : List Value} {h : oH}
theorem r_iadd (C : oC G M n0 nF p l R s m args meth c) {x y : Int32} (hd : decode M.2.1 pc = .ok (.iadd, 1)) (k : oS G M p l e R s m args below meth c Z n0 (pc + 1) L (.int (x + y) :: S) h) : oS G M p l e R s m args below meth c Z n0 pc L (.int y :: .int x :: S) h := fun H locs ls a b z n q => lv_iadd C.1 C.2.1 hd (k H locs ls a b z n q)
theorem r_isub (C : oC G M n0 nF p l R s m args meth c) {x y : Int32} (hd : decode M.2.1 pc = .ok (.isub, 1)) (k : oS G M p l e R s m args below meth c Z n0 (pc + 1) L (.int (x - y) :: S) h) : oS G M p l e R s m args below meth c Z n0 pc L (.int y :: .int x :: S) h := fun H locs ls a b z n q => lv_isub C.1 C.2.1 hd (k H locs ls a b z n q)
theorem r_imul (C : oC G M n0 nF p l R s m args meth c) {x y : Int32} (hd : decode M.2.1 pc = .ok (.imul, 1)) (k : oS G M p l e R s m args below meth c Z n0 (pc + 1) L (.int (x * y) :: S) h) : oS G M p l e R s m args below meth c Z n0 pc L (.int y :: .int x :: S) h := fun H locs ls a b z n q => lv_imul C.1 C.2.1 hd (k H locs ls a b z n q)
theorem r_iand (C : oC G M n0 nF p l R s m args meth c) {x y : Int32} (hd : decode M.2.1 pc = .ok (.iand, 1)) (k : oS G M p l e R s m args below meth c Z n0 (pc + 1) L (.int (x &&& y) :: S) h) : oS G M p l e R s m args below meth c Z n0 pc L (.int y :: .int x :: S) h := fun H locs ls a b z n q => lv_iand C.1 C.2.1 hd (k H locs ls a b z n q)
theorem r_ior (C : oC G M n0 nF p l R s m args meth c) {x y : Int32} (hd : decode M.2.1 pc = .ok (.ior, 1)) (k : oS G M p l e R s m args below meth c Z n0 (pc + 1) L (.int (x ||| y) :: S) h) : oS G M p l e R s m args below meth c Z n0 pc L (.int y :: .int x :: S) h := fun H locs ls a b z n q => lv_ior C.1 C.2.1 hd (k H locs ls a b z n q)
theorem r_ixor (C : oC G M n0 nF p l R s m args meth c) {x y : Int32} (hd : decode M.2.1 pc = .ok (.ixor, 1)) (k : oS G M p l e R s m args below meth c Z n0 (pc + 1) L (.int (x ^^^ y) :: S) h) : oS G M p l e R s m args below meth c Z n0 pc L (.int y :: .int x :: S) h := fun H locs ls a b z n q => lv_ixor C.1 C.2.1 hd (k H locs ls a b z n q)
theorem r_ishl (C : oC G M n0 nF p l R s m args meth c) {x y : Int32} (hd : decode M.2.1 pc = .ok (.ishl, 1)) (k : oS G M p l e R s m args below meth c Z n0 (pc + 1) L (.int (x <<< (y &&& 31)) :: S) h) : oS G M p l e R s m args below meth c Z n0 pc L (.int y :: .int x :: S) h := fun H locs ls a b z n q => lv_ishl C.1 C.2.1 hd (k H locs ls a b z n q)
theorem r_ishr (C : oC G M n0 nF p l R s m args meth c) {x y : Int32} (hd : decode M.2.1 pc = .ok (.ishr, 1)) (k : oS G M p l e R s m args below meth c Z n0 (pc + 1) L (.int (x >>> (y &&& 31)) :: S) h) : oS G M p l e R s m args below meth c Z n0 pc L (.int y :: .int x :: S) h := fun H locs ls a b z n q => lv_ishr C.1 C.2.1 hd (k H locs ls a b z n q)
theorem r_idiv (C : oC G M n0 nF p l R s m args meth c) {x y : Int32} (hne : ¬ y = 0) (hd : decode M.2.1 pc = .ok (.idiv, 1)) (k : oS G M p l e R s m args below meth c Z n0 (pc + 1) L (.int (x / y) :: S) h) : oS G M p l e R s m args below meth c Z n0 pc L (.int y :: .int x :: S) h := fun H locs ls a b z n q => lv_idiv C.1 C.2.1 hd hne (k H locs ls a b z n q)
theorem r_ineg (C : oC G M n0 nF p l R s m args meth c) {x : Int32} (hd : decode M.2.1 pc = .ok (.ineg, 1)) (k : oS G M p l e R s m args below meth c Z n0 (pc + 1) L (.int (-x) :: S) h) : oS G M p l e R s m args below meth c Z n0 pc L (.int x :: S) h := fun H locs ls a b z n q => lv_ineg C.1 C.2.1 hd (k H locs ls a b z n q)
theorem r_ladd (C : oC G M n0 nF p l R s m args meth c) {x y : Int64} (hd : decode M.2.1 pc = .ok (.ladd, 1)) (k : oS G M p l e R s m args below meth c Z n0 (pc + 1) L (.long (x + y) :: S) h) : oS G M p l e R s m args below meth c Z n0 pc L (.long y :: .long x :: S) h := fun H locs ls a b z n q => lv_ladd C.1 C.2.1 hd (k H locs ls a b z n q)
theorem r_land (C : oC G M n0 nF p l R s m args meth c) {x y : Int64} (hd : decode M.2.1 pc = .ok (.land, 1)) (k : oS G M p l e R s m args below meth c Z n0 (pc + 1) L (.long (x &&& y) :: S) h) : oS G M p l e R s m args below meth c Z n0 pc L (.long y :: .long x :: S) h := fun H locs ls a b z n q => lv_land C.1 C.2.1 hd (k H locs ls a b z n q)
theorem r_lor (C : oC G M n0 nF p l R s m args meth c) {x y : Int64} (hd : decode M.2.1 pc = .ok (.lor, 1)) (k : oS G M p l e R s m args below meth c Z n0 (pc + 1) L (.long (x ||| y) :: S) h) : oS G M p l e R s m args below meth c Z n0 pc L (.long y :: .long x :: S) h := fun H locs ls a b z n q => lv_lor C.1 C.2.1 hd (k H locs ls a b z n q)
theorem r_lcmp (C : oC G M n0 nF p l R s m args meth c) {x y : Int64} (hd : decode M.2.1 pc = .ok (.lcmp, 1)) (k : oS G M p l e R s m args below meth c Z n0 (pc + 1) L (.int (lg_cmp x y) :: S) h) : oS G M p l e R s m args below meth c Z n0 pc L (.long y :: .long x :: S) h := fun H locs ls a b z n q => W.lcmp C.1 C.2.1 hd (k H locs ls a b z n q)
theorem r_lshl (C : oC G M n0 nF p l R s m args meth c) {x : Int64} {y : Int32} (hd : decode M.2.1 pc = .ok (.lshl, 1)) (k : oS G M p l e R s m args below meth c Z n0 (pc + 1) L (.long (x <<< (y.toInt64 &&& 63)) :: S) h) : oS G M p l e R s m args below meth c Z n0 pc L (.int y :: .long x :: S) h := fun H locs ls a b z n q => lv_lshl C.1 C.2.1 hd rfl (k H locs ls a b z n q)
theorem r_lshr (C : oC G M n0 nF p l R s m args meth c) {x : Int64} {y : Int32} (hd : decode M.2.1 pc = .ok (.lshr, 1)) (k : oS G M p l e R s m args below meth c Z n0 (pc + 1) L (.long (x >>> (y.toInt64 &&& 63)) :: S) h) : oS G M p l e R s m args below meth c Z n0 pc L (.int y :: .long x :: S) h := fun H locs ls a b z n q => lv_lshr C.1 C.2.1 hd rfl (k H locs ls a b z n q)
theorem r_iushr (C : oC G M n0 nF p l R s m args meth c) {x y : Int32} (hd : decode M.2.1 pc = .ok (.iushr, 1)) (k : oS G M p l e R s m args below meth c Z n0 (pc + 1) L (.int ((x.toUInt32 >>> (y.toUInt32 &&& Int32.toUInt32 31)).toInt32) :: S) h) : oS G M p l e R s m args below meth c Z n0 pc L (.int y :: .int x :: S) h := fun H locs ls a b z n q => lv_iushr C.1 C.2.1 hd rfl (k H locs ls a b z n q)
theorem r_i2l (C : oC G M n0 nF p l R s m args meth c) {x : Int32} (hd : decode M.2.1 pc = .ok (.i2l, 1)) (k : oS G M p l e R s m args below meth c Z n0 (pc + 1) L (.long (x.toInt64) :: S) h) : oS G M p l e R s m args below meth c Z n0 pc L (.int x :: S) h := fun H locs ls a b z n q => lv_i2l C.1 C.2.1 hd rfl (k H locs ls a b z n q)
theorem r_l2i (C : oC G M n0 nF p l R s m args meth c) {x : Int64} (hd : decode M.2.1 pc = .ok (.l2i, 1)) (k : oS G M p l e R s m args below meth c Z n0 (pc + 1) L (.int (x.toInt32) :: S) h) : oS G M p l e R s m args below meth c Z n0 pc L (.long x :: S) h := fun H locs ls a b z n q => lv_l2i C.1 C.2.1 hd rfl (k H locs ls a b z n q)
theorem r_i2b (C : oC G M n0 nF p l R s m args meth c) {x : Int32} (hd : decode M.2.1 pc = .ok (.i2b, 1)) (k : oS G M p l e R s m args below meth c Z n0 (pc + 1) L (.int (x.toInt8.toInt32) :: S) h) : oS G M p l e R s m args below meth c Z n0 pc L (.int x :: S) h := fun H locs ls a b z n q => lv_i2b C.1 C.2.1 hd rfl (k H locs ls a b z n q)
theorem r_i2c (C : oC G M n0 nF p l R s m args meth c) {x : Int32} (hd : decode M.2.1 pc = .ok (.i2c, 1)) (k : oS G M p l e R s m args below meth c Z n0 (pc + 1) L (.int ((x.toUInt32 % 65536).toInt32) :: S) h) : oS G M p l e R s m args below meth c Z n0 pc L (.int x :: S) h := fun H locs ls a b z n q => lv_i2c C.1 C.2.1 hd rfl (k H locs ls a b z n q)
theorem r_iconst (C : oC G M n0 nF p l R s m args meth c) {n : Int} (hd : decode M.2.1 pc = .ok (.iconst n, 1)) (k : oS G M p l e R s m args below meth c Z n0 (pc + 1) L (.int (Int32.ofInt n) :: S) h) : oS G M p l e R s m args below meth c Z n0 pc L S h := fun H locs ls a b z n q => lv_iconst C.1 C.2.1 hd rfl (k H locs ls a b z n q)
theorem r_iconstv (C : oC G M n0 nF p l R s m args meth c) {n : Int} (v : Int32) (hv : Int32.ofInt n = v) (hd : decode M.2.1 pc = .ok (.iconst n, 1)) (k : oS G M p l e R s m args below meth c Z n0 (pc + 1) L (.int v :: S) h) : oS G M p l e R s m args below meth c Z n0 pc L S h := fun H locs ls a b z n q => lv_iconst C.1 C.2.1 hd hv (k H locs ls a b z n q)
theorem r_bipush (C : oC G M n0 nF p l R s m args meth c) {n : Int} (v : Int32) (hv : (Int8.ofInt n).toInt32 = v) (hd : decode M.2.1 pc = .ok (.bipush n, 2)) (k : oS G M p l e R s m args below meth c Z n0 (pc + 2) L (.int v :: S) h) : oS G M p l e R s m args below meth c Z n0 pc L S h := fun H locs ls a b z n q => lv_bipush C.1 C.2.1 hd hv (k H locs ls a b z n q)
theorem r_sipush (C : oC G M n0 nF p l R s m args meth c) {n : Int} (v : Int32) (hv : (Int16.ofInt n).toInt32 = v) (hd : decode M.2.1 pc = .ok (.sipush n, 3)) (k : oS G M p l e R s m args below meth c Z n0 (pc + 3) L (.int v :: S) h) : oS G M p l e R s m args below meth c Z n0 pc L S h := fun H locs ls a b z n q => lv_sipush C.1 C.2.1 hd hv (k H locs ls a b z n q)
theorem r_lconst (C : oC G M n0 nF p l R s m args meth c) {n : Fin 2} (v : Int64) (hv : Int64.ofNat (n : Nat) = v) (hd : decode M.2.1 pc = .ok (.lconst n, 1)) (k : oS G M p l e R s m args below meth c Z n0 (pc + 1) L (.long v :: S) h) : oS G M p l e R s m args below meth c Z n0 pc L S h := fun H locs ls a b z n q => lv_lconst C.1 C.2.1 hd hv (k H locs ls a b z n q)
theorem r_ldc (C : oC G M n0 nF p l R s m args meth c) {index : Nat} (v : Int32) (hw : Cond.constant M.1.cls index v ∈ oWL) (hd : decode M.2.1 pc = .ok (.ldc index, 2)) (k : oS G M p l e R s m args below meth c Z n0 (pc + 2) L (.int v :: S) h) : oS G M p l e R s m args below meth c Z n0 pc L S h := fun H locs ls a b z n q => lv_ldc C.1 C.2.1 C.2.2.2.2.1 (C.2.2.2.2.2.1 _ hw) hd (k H locs ls a b z n q)
theorem r_ldcw (C : oC G M n0 nF p l R s m args meth c) {index : Nat} (v : Int32) (hw : Cond.constant M.1.cls index v ∈ oWL) (hd : decode M.2.1 pc = .ok (.ldc_w index, 3)) (k : oS G M p l e R s m args below meth c Z n0 (pc + 3) L (.int v :: S) h) : oS G M p l e R s m args below meth c Z n0 pc L S h := fun H locs ls a b z n q => lv_ldcw C.1 C.2.1 C.2.2.2.2.1 (C.2.2.2.2.2.1 _ hw) hd (k H locs ls a b z n q)
theorem r_ldc2 (C : oC G M n0 nF p l R s m args meth c) {index : Nat} (v : Int64) (hw : Cond.constantLong M.1.cls index v ∈ oWL) (hd : decode M.2.1 pc = .ok (.ldc2_w index, 3)) (k : oS G M p l e R s m args below meth c Z n0 (pc + 3) L (.long v :: S) h) : oS G M p l e R s m args below meth c Z n0 pc L S h := fun H locs ls a b z n q => lv_ldc2 C.1 C.2.1 C.2.2.2.2.1 (C.2.2.2.2.2.1 _ hw) hd (k H locs ls a b z n q)
theorem r_null (C : oC G M n0 nF p l R s m args meth c)  (hd : decode M.2.1 pc = .ok (.aconst_null, 1)) (k : oS G M p l e R s m args below meth c Z n0 (pc + 1) L (.null :: S) h) : oS G M p l e R s m args below meth c Z n0 pc L S h := fun H locs ls a b z n q => lv_null C.1 C.2.1 hd (k H locs ls a b z n q)
theorem r_iload_n (C : oC G M n0 nF p l R s m args meth c) {i : Fin 4} {x : Int32} (hl : L[(i : Nat)]? = some (some (.int x))) (hd : decode M.2.1 pc = .ok (.iload_n i, 1)) (k : oS G M p l e R s m args below meth c Z n0 (pc + 1) L (.int x :: S) h) : oS G M p l e R s m args below meth c Z n0 pc L S h := fun H locs ls a b z n q => lv_iload_n C.1 C.2.1 hd rfl (q.2.2 _ _ hl) (k H locs ls a b z n q)
theorem r_iload (C : oC G M n0 nF p l R s m args meth c) {i : Nat} {x : Int32} (hl : L[i]? = some (some (.int x))) (hd : decode M.2.1 pc = .ok (.iload i, 2)) (k : oS G M p l e R s m args below meth c Z n0 (pc + 2) L (.int x :: S) h) : oS G M p l e R s m args below meth c Z n0 pc L S h := fun H locs ls a b z n q => lv_iload C.1 C.2.1 hd (q.2.2 _ _ hl) (k H locs ls a b z n q)
theorem r_lload_n (C : oC G M n0 nF p l R s m args meth c) {i : Fin 4} {x : Int64} (hl : L[(i : Nat)]? = some (some (.long x))) (hd : decode M.2.1 pc = .ok (.lload_n i, 1)) (k : oS G M p l e R s m args below meth c Z n0 (pc + 1) L (.long x :: S) h) : oS G M p l e R s m args below meth c Z n0 pc L S h := fun H locs ls a b z n q => lv_lload_n C.1 C.2.1 hd rfl (q.2.2 _ _ hl) (k H locs ls a b z n q)
theorem r_lload (C : oC G M n0 nF p l R s m args meth c) {i : Nat} {x : Int64} (hl : L[i]? = some (some (.long x))) (hd : decode M.2.1 pc = .ok (.lload i, 2)) (k : oS G M p l e R s m args below meth c Z n0 (pc + 2) L (.long x :: S) h) : oS G M p l e R s m args below meth c Z n0 pc L S h := fun H locs ls a b z n q => lv_lload C.1 C.2.1 hd (q.2.2 _ _ hl) (k H locs ls a b z n q)
theorem r_aload_n (C : oC G M n0 nF p l R s m args meth c) {i : Fin 4} {v : Value} (hl : L[(i : Nat)]? = some (some v)) (hv : oIsR v = true) (hd : decode M.2.1 pc = .ok (.aload_n i, 1)) (k : oS G M p l e R s m args below meth c Z n0 (pc + 1) L (v :: S) h) : oS G M p l e R s m args below meth c Z n0 pc L S h := fun H locs ls a b z n q => by
  have k1 := k H locs ls a b z n q
  have h1 := q.2.2 _ _ hl
  cases v <;> first | exact absurd hv Bool.false_ne_true | exact lv_aload_n C.1 C.2.1 hd rfl h1 k1 | exact lv_aload_nN C.1 C.2.1 hd rfl h1 k1
theorem r_aload (C : oC G M n0 nF p l R s m args meth c) {i : Nat} {v : Value} (hl : L[i]? = some (some v)) (hv : oIsR v = true) (hd : decode M.2.1 pc = .ok (.aload i, 2)) (k : oS G M p l e R s m args below meth c Z n0 (pc + 2) L (v :: S) h) : oS G M p l e R s m args below meth c Z n0 pc L S h := fun H locs ls a b z n q => by
  have k1 := k H locs ls a b z n q
  have h1 := q.2.2 _ _ hl
  cases v <;> first | exact absurd hv Bool.false_ne_true | exact lv_aload C.1 C.2.1 hd h1 k1 | exact lv_aloadN C.1 C.2.1 hd h1 k1
theorem r_istore_n (C : oC G M n0 nF p l R s m args meth c) {i : Fin 4} {x : Int32} (ho : oOk L i = true) (hn : (i : Nat) < M.2.2.1) (hd : decode M.2.1 pc = .ok (.istore_n i, 1)) (k : oS G M p l e R s m args below meth c Z n0 (pc + 1) (L.set i (some (.int x))) S h) : oS G M p l e R s m args below meth c Z n0 pc L (.int x :: S) h := fun H locs ls a b z n q => lv_istore_n C.1 C.2.1 hd rfl q.has hn rfl (fun ls1 q1 => k H locs ls1 a b z n (oL.store1 ho q1))
theorem r_istore (C : oC G M n0 nF p l R s m args meth c) {i : Nat} {x : Int32} (ho : oOk L i = true) (hn : i < M.2.2.1) (hd : decode M.2.1 pc = .ok (.istore i, 2)) (k : oS G M p l e R s m args below meth c Z n0 (pc + 2) (L.set i (some (.int x))) S h) : oS G M p l e R s m args below meth c Z n0 pc L (.int x :: S) h := fun H locs ls a b z n q => lv_istore C.1 C.2.1 hd q.has hn rfl (fun ls1 q1 => k H locs ls1 a b z n (oL.store1 ho q1))
theorem r_lstore_n (C : oC G M n0 nF p l R s m args meth c) {i : Fin 4} {x : Int64} (ho : oOk L i = true) (hn : (i : Nat) + 1 < M.2.2.1) (hd : decode M.2.1 pc = .ok (.lstore_n i, 1)) (k : oS G M p l e R s m args below meth c Z n0 (pc + 1) ((L.set i (some (.long x))).set (i + 1) none) S h) : oS G M p l e R s m args below meth c Z n0 pc L (.long x :: S) h := fun H locs ls a b z n q => lv_lstore_n C.1 C.2.1 hd rfl q.has hn rfl (fun ls1 q1 => k H locs ls1 a b z n (oL.store2 ho q1))
theorem r_astore_n (C : oC G M n0 nF p l R s m args meth c) {i : Fin 4} {v : Value} (hv : oIsR v = true) (ho : oOk L i = true) (hn : (i : Nat) < M.2.2.1) (hd : decode M.2.1 pc = .ok (.astore_n i, 1)) (k : oS G M p l e R s m args below meth c Z n0 (pc + 1) (L.set i (some v)) S h) : oS G M p l e R s m args below meth c Z n0 pc L (v :: S) h := fun H locs ls a b z n q => by
  cases v <;> first | exact absurd hv Bool.false_ne_true | exact lv_astore_n C.1 C.2.1 hd rfl q.has hn rfl (fun ls1 q1 => k H locs ls1 a b z n (oL.store1 ho q1)) | exact lv_astore_nN C.1 C.2.1 hd rfl q.has hn rfl (fun ls1 q1 => k H locs ls1 a b z n (oL.store1 ho q1))
theorem r_astore (C : oC G M n0 nF p l R s m args meth c) {i : Nat} {v : Value} (hv : oIsR v = true) (ho : oOk L i = true) (hn : i < M.2.2.1) (hd : decode M.2.1 pc = .ok (.astore i, 2)) (k : oS G M p l e R s m args below meth c Z n0 (pc + 2) (L.set i (some v)) S h) : oS G M p l e R s m args below meth c Z n0 pc L (v :: S) h := fun H locs ls a b z n q => by
  cases v <;> first | exact absurd hv Bool.false_ne_true | exact lv_astore C.1 C.2.1 hd q.has hn rfl (fun ls1 q1 => k H locs ls1 a b z n (oL.store1 ho q1)) | exact lv_astoreN C.1 C.2.1 hd q.has hn rfl (fun ls1 q1 => k H locs ls1 a b z n (oL.store1 ho q1))
theorem r_iinc (C : oC G M n0 nF p l R s m args meth c) {i : Nat} {d : Int} {x : Int32} (hl : L[i]? = some (some (.int x))) (ho : oOk L i = true) (hn : i < M.2.2.1) (hd : decode M.2.1 pc = .ok (.iinc i d, 3)) (k : oS G M p l e R s m args below meth c Z n0 (pc + 3) (L.set i (some (.int (x + Int32.ofInt d)))) S h) : oS G M p l e R s m args below meth c Z n0 pc L S h := fun H locs ls a b z n q => by
  obtain ⟨j, hj⟩ := List.getElem?_of_mem (oLs_mem (G := G).mpr ⟨_, hl, rfl⟩)
  exact lv_iinc C.1 C.2.1 hd q.has hj rfl hn rfl (fun ls1 q1 => k H locs ls1 a b z n (oL.store1 ho q1))
theorem r_dup (C : oC G M n0 nF p l R s m args meth c) {v : Value} (c1 : v.category = 1) (hd : decode M.2.1 pc = .ok (.dup, 1)) (k : oS G M p l e R s m args below meth c Z n0 (pc + 1) L (v :: v :: S) h) : oS G M p l e R s m args below meth c Z n0 pc L (v :: S) h := fun H locs ls a b z n q => lv_dup C.1 C.2.1 hd (oV_cat G _ c1) (k H locs ls a b z n q)
theorem r_pop (C : oC G M n0 nF p l R s m args meth c) {v : Value} (c1 : v.category = 1) (hd : decode M.2.1 pc = .ok (.pop, 1)) (k : oS G M p l e R s m args below meth c Z n0 (pc + 1) L S h) : oS G M p l e R s m args below meth c Z n0 pc L (v :: S) h := fun H locs ls a b z n q => lv_pop C.1 C.2.1 hd (oV_cat G _ c1) (k H locs ls a b z n q)
theorem r_dup2 (C : oC G M n0 nF p l R s m args meth c) {v w : Value} (c1 : v.category = 1) (c2 : w.category = 1) (hd : decode M.2.1 pc = .ok (.dup2, 1)) (k : oS G M p l e R s m args below meth c Z n0 (pc + 1) L (v :: w :: v :: w :: S) h) : oS G M p l e R s m args below meth c Z n0 pc L (v :: w :: S) h := fun H locs ls a b z n q => lv_dup2_11 C.1 C.2.1 hd (oV_cat G _ c1) (oV_cat G _ c2) (k H locs ls a b z n q)
theorem r_if_eq (C : oC G M n0 nF p l R s m args meth c) {x : Int32} {off : Int} (tgt : Nat) (ht : (pc : Int) + off = (tgt : Int)) (hd : decode M.2.1 pc = .ok (.ifCond .eq off, 3)) (kt : x = 0 → oS G M p l e R s m args below meth c Z n0 tgt L S h) (kf : ¬ x = 0 → oS G M p l e R s m args below meth c Z n0 (pc + 3) L S h) : oS G M p l e R s m args below meth c Z n0 pc L (.int x :: S) h := fun H locs ls a b z n q => lv_if_eq C.1 C.2.1 hd ht (fun j => kt j H locs ls a b z n q) (fun j => kf j H locs ls a b z n q)
theorem r_icmp_eq (C : oC G M n0 nF p l R s m args meth c) {x y : Int32} {off : Int} (tgt : Nat) (ht : (pc : Int) + off = (tgt : Int)) (hd : decode M.2.1 pc = .ok (.if_icmp .eq off, 3)) (kt : x = y → oS G M p l e R s m args below meth c Z n0 tgt L S h) (kf : ¬ x = y → oS G M p l e R s m args below meth c Z n0 (pc + 3) L S h) : oS G M p l e R s m args below meth c Z n0 pc L (.int y :: .int x :: S) h := fun H locs ls a b z n q => lv_icmp_eq C.1 C.2.1 hd ht (fun j => kt j H locs ls a b z n q) (fun j => kf j H locs ls a b z n q)
theorem r_if_ne (C : oC G M n0 nF p l R s m args meth c) {x : Int32} {off : Int} (tgt : Nat) (ht : (pc : Int) + off = (tgt : Int)) (hd : decode M.2.1 pc = .ok (.ifCond .ne off, 3)) (kt : ¬ x = 0 → oS G M p l e R s m args below meth c Z n0 tgt L S h) (kf : x = 0 → oS G M p l e R s m args below meth c Z n0 (pc + 3) L S h) : oS G M p l e R s m args below meth c Z n0 pc L (.int x :: S) h := fun H locs ls a b z n q => lv_if_ne C.1 C.2.1 hd ht (fun j => kt j H locs ls a b z n q) (fun j => kf j H locs ls a b z n q)
theorem r_icmp_ne (C : oC G M n0 nF p l R s m args meth c) {x y : Int32} {off : Int} (tgt : Nat) (ht : (pc : Int) + off = (tgt : Int)) (hd : decode M.2.1 pc = .ok (.if_icmp .ne off, 3)) (kt : ¬ x = y → oS G M p l e R s m args below meth c Z n0 tgt L S h) (kf : x = y → oS G M p l e R s m args below meth c Z n0 (pc + 3) L S h) : oS G M p l e R s m args below meth c Z n0 pc L (.int y :: .int x :: S) h := fun H locs ls a b z n q => lv_icmp_ne C.1 C.2.1 hd ht (fun j => kt j H locs ls a b z n q) (fun j => kf j H locs ls a b z n q)
theorem r_if_lt (C : oC G M n0 nF p l R s m args meth c) {x : Int32} {off : Int} (tgt : Nat) (ht : (pc : Int) + off = (tgt : Int)) (hd : decode M.2.1 pc = .ok (.ifCond .lt off, 3)) (kt : x < 0 → oS G M p l e R s m args below meth c Z n0 tgt L S h) (kf : ¬ x < 0 → oS G M p l e R s m args below meth c Z n0 (pc + 3) L S h) : oS G M p l e R s m args below meth c Z n0 pc L (.int x :: S) h := fun H locs ls a b z n q => lv_if_lt C.1 C.2.1 hd ht (fun j => kt j H locs ls a b z n q) (fun j => kf j H locs ls a b z n q)
theorem r_icmp_lt (C : oC G M n0 nF p l R s m args meth c) {x y : Int32} {off : Int} (tgt : Nat) (ht : (pc : Int) + off = (tgt : Int)) (hd : decode M.2.1 pc = .ok (.if_icmp .lt off, 3)) (kt : x < y → oS G M p l e R s m args below meth c Z n0 tgt L S h) (kf : ¬ x < y → oS G M p l e R s m args below meth c Z n0 (pc + 3) L S h) : oS G M p l e R s m args below meth c Z n0 pc L (.int y :: .int x :: S) h := fun H locs ls a b z n q => lv_icmp_lt C.1 C.2.1 hd ht (fun j => kt j H locs ls a b z n q) (fun j => kf j H locs ls a b z n q)
theorem r_if_ge (C : oC G M n0 nF p l R s m args meth c) {x : Int32} {off : Int} (tgt : Nat) (ht : (pc : Int) + off = (tgt : Int)) (hd : decode M.2.1 pc = .ok (.ifCond .ge off, 3)) (kt : 0 ≤ x → oS G M p l e R s m args below meth c Z n0 tgt L S h) (kf : ¬ 0 ≤ x → oS G M p l e R s m args below meth c Z n0 (pc + 3) L S h) : oS G M p l e R s m args below meth c Z n0 pc L (.int x :: S) h := fun H locs ls a b z n q => lv_if_ge C.1 C.2.1 hd ht (fun j => kt j H locs ls a b z n q) (fun j => kf j H locs ls a b z n q)
theorem r_icmp_ge (C : oC G M n0 nF p l R s m args meth c) {x y : Int32} {off : Int} (tgt : Nat) (ht : (pc : Int) + off = (tgt : Int)) (hd : decode M.2.1 pc = .ok (.if_icmp .ge off, 3)) (kt : y ≤ x → oS G M p l e R s m args below meth c Z n0 tgt L S h) (kf : ¬ y ≤ x → oS G M p l e R s m args below meth c Z n0 (pc + 3) L S h) : oS G M p l e R s m args below meth c Z n0 pc L (.int y :: .int x :: S) h := fun H locs ls a b z n q => lv_icmp_ge C.1 C.2.1 hd ht (fun j => kt j H locs ls a b z n q) (fun j => kf j H locs ls a b z n q)
theorem r_if_gt (C : oC G M n0 nF p l R s m args meth c) {x : Int32} {off : Int} (tgt : Nat) (ht : (pc : Int) + off = (tgt : Int)) (hd : decode M.2.1 pc = .ok (.ifCond .gt off, 3)) (kt : 0 < x → oS G M p l e R s m args below meth c Z n0 tgt L S h) (kf : ¬ 0 < x → oS G M p l e R s m args below meth c Z n0 (pc + 3) L S h) : oS G M p l e R s m args below meth c Z n0 pc L (.int x :: S) h := fun H locs ls a b z n q => lv_if_gt C.1 C.2.1 hd ht (fun j => kt j H locs ls a b z n q) (fun j => kf j H locs ls a b z n q)
theorem r_icmp_gt (C : oC G M n0 nF p l R s m args meth c) {x y : Int32} {off : Int} (tgt : Nat) (ht : (pc : Int) + off = (tgt : Int)) (hd : decode M.2.1 pc = .ok (.if_icmp .gt off, 3)) (kt : y < x → oS G M p l e R s m args below meth c Z n0 tgt L S h) (kf : ¬ y < x → oS G M p l e R s m args below meth c Z n0 (pc + 3) L S h) : oS G M p l e R s m args below meth c Z n0 pc L (.int y :: .int x :: S) h := fun H locs ls a b z n q => lv_icmp_gt C.1 C.2.1 hd ht (fun j => kt j H locs ls a b z n q) (fun j => kf j H locs ls a b z n q)
theorem r_if_le (C : oC G M n0 nF p l R s m args meth c) {x : Int32} {off : Int} (tgt : Nat) (ht : (pc : Int) + off = (tgt : Int)) (hd : decode M.2.1 pc = .ok (.ifCond .le off, 3)) (kt : x ≤ 0 → oS G M p l e R s m args below meth c Z n0 tgt L S h) (kf : ¬ x ≤ 0 → oS G M p l e R s m args below meth c Z n0 (pc + 3) L S h) : oS G M p l e R s m args below meth c Z n0 pc L (.int x :: S) h := fun H locs ls a b z n q => lv_if_le C.1 C.2.1 hd ht (fun j => kt j H locs ls a b z n q) (fun j => kf j H locs ls a b z n q)
theorem r_icmp_le (C : oC G M n0 nF p l R s m args meth c) {x y : Int32} {off : Int} (tgt : Nat) (ht : (pc : Int) + off = (tgt : Int)) (hd : decode M.2.1 pc = .ok (.if_icmp .le off, 3)) (kt : x ≤ y → oS G M p l e R s m args below meth c Z n0 tgt L S h) (kf : ¬ x ≤ y → oS G M p l e R s m args below meth c Z n0 (pc + 3) L S h) : oS G M p l e R s m args below meth c Z n0 pc L (.int y :: .int x :: S) h := fun H locs ls a b z n q => lv_icmp_le C.1 C.2.1 hd ht (fun j => kt j H locs ls a b z n q) (fun j => kf j H locs ls a b z n q)
theorem r_goto (C : oC G M n0 nF p l R s m args meth c) {off : Int} (tgt : Nat) (ht : (pc : Int) + off = (tgt : Int)) (hd : decode M.2.1 pc = .ok (.goto off, 3)) (k : oS G M p l e R s m args below meth c Z n0 tgt L S h) : oS G M p l e R s m args below meth c Z n0 pc L S h := fun H locs ls a b z n q => lv_goto C.1 C.2.1 hd ht (k H locs ls a b z n q)
theorem r_ifnull (C : oC G M n0 nF p l R s m args meth c) {i : Nat} {off : Int} (hd : decode M.2.1 pc = .ok (.ifnull off, 3)) (k : oS G M p l e R s m args below meth c Z n0 (pc + 3) L S h) : oS G M p l e R s m args below meth c Z n0 pc L (.ref i :: S) h := fun H locs ls a b z n q => lv_ifnull C.1 C.2.1 hd (k H locs ls a b z n q)
theorem r_ifnullN (C : oC G M n0 nF p l R s m args meth c) {off : Int} (tgt : Nat) (ht : (pc : Int) + off = (tgt : Int)) (hd : decode M.2.1 pc = .ok (.ifnull off, 3)) (k : oS G M p l e R s m args below meth c Z n0 tgt L S h) : oS G M p l e R s m args below meth c Z n0 pc L (.null :: S) h := fun H locs ls a b z n q => lv_ifnullN C.1 C.2.1 hd ht (k H locs ls a b z n q)
theorem r_ifnonnull (C : oC G M n0 nF p l R s m args meth c) {i : Nat} {off : Int} (tgt : Nat) (ht : (pc : Int) + off = (tgt : Int)) (hd : decode M.2.1 pc = .ok (.ifnonnull off, 3)) (k : oS G M p l e R s m args below meth c Z n0 tgt L S h) : oS G M p l e R s m args below meth c Z n0 pc L (.ref i :: S) h := fun H locs ls a b z n q => lv_ifnonnull C.1 C.2.1 hd ht (k H locs ls a b z n q)
theorem r_ifnonnullN (C : oC G M n0 nF p l R s m args meth c) {off : Int} (hd : decode M.2.1 pc = .ok (.ifnonnull off, 3)) (k : oS G M p l e R s m args below meth c Z n0 (pc + 3) L S h) : oS G M p l e R s m args below meth c Z n0 pc L (.null :: S) h := fun H locs ls a b z n q => lv_ifnonnullN C.1 C.2.1 hd (k H locs ls a b z n q)
theorem r_tableOut (C : oC G M n0 nF p l R s m args meth c) {dflt lo hi : Int} {offs : Array Int} {len : Nat} {x : Int32} (tgt : Nat) (hx : x.toInt < lo ∨ hi < x.toInt) (ht : (pc : Int) + dflt = (tgt : Int)) (hd : decode M.2.1 pc = .ok (.tableswitch dflt lo hi offs, len)) (k : oS G M p l e R s m args below meth c Z n0 tgt L S h) : oS G M p l e R s m args below meth c Z n0 pc L (.int x :: S) h := fun H locs ls a b z n q => lv_tableOut C.1 C.2.1 hd hx ht (k H locs ls a b z n q)
theorem r_tableIn (C : oC G M n0 nF p l R s m args meth c) {dflt lo hi : Int} {offs : Array Int} {len : Nat} {x : Int32} {off : Int} (tgt : Nat) (h1 : ¬ x.toInt < lo) (h2 : ¬ hi < x.toInt) (ho : offs[(x.toInt - lo).toNat]? = some off) (ht : (pc : Int) + off = (tgt : Int)) (hd : decode M.2.1 pc = .ok (.tableswitch dflt lo hi offs, len)) (k : oS G M p l e R s m args below meth c Z n0 tgt L S h) : oS G M p l e R s m args below meth c Z n0 pc L (.int x :: S) h := fun H locs ls a b z n q => lv_tableIn C.1 C.2.1 hd h1 h2 ho ht (k H locs ls a b z n q)
theorem r_lookup (C : oC G M n0 nF p l R s m args meth c) {dflt : Int} {ps : Array (Int × Int)} {len : Nat} {x : Int32} {off : Int} (tgt : Nat) (hp : (ps.toList.zip (ps.toList.drop 1)).all (fun (a, next) => a.1 < next.1) = true) (ho : Op.lookupswitch.offset ps.toList dflt x.toInt = off) (ht : (pc : Int) + off = (tgt : Int)) (hd : decode M.2.1 pc = .ok (.lookupswitch dflt ps, len)) (k : oS G M p l e R s m args below meth c Z n0 tgt L S h) : oS G M p l e R s m args below meth c Z n0 pc L (.int x :: S) h := fun H locs ls a b z n q => lv_lookup C.1 C.2.1 hd hp ho ht (k H locs ls a b z n q)
end ORULES
end
section
/-! fields -/
def clQ (ci : Nat) : vw_C := match ci with
  | 0 => (RX0, TX0, 2)
  | 1 => (RX1, TX1, 15)
  | 2 => (RX2, TX2, 3)
  | 3 => (RX3, TX3, 12)
  | 4 => (RX4, TX4, 7)
  | 5 => (RX5, TX5, 14)
  | _ => (RX6, TX6, 45)
theorem c7 {P : Nat → Prop} (h0 : P 0) (h1 : P 1) (h2 : P 2) (h3 : P 3) (h4 : P 4) (h5 : P 5) (h6 : P 6) {i : Nat} (h : i < 7) : P i := by
  match i, h with
  | 0, _ => exact h0
  | 1, _ => exact h1
  | 2, _ => exact h2
  | 3, _ => exact h3
  | 4, _ => exact h4
  | 5, _ => exact h5
  | 6, _ => exact h6
  | n + 7, h => omega
theorem clQ_ok {ci : Nat} (h : ci < 7) : vwCl[ci]? = some (clQ ci) := c7 (P := fun ci => vwCl[ci]? = some (clQ ci)) rfl rfl rfl rfl rfl rfl rfl h
theorem clQ_nf {ci : Nat} (h : ci < 7) : (clQ ci).2.2 = nf ci := c7 (P := fun ci => (clQ ci).2.2 = nf ci) rfl rfl rfl rfl rfl rfl rfl h
theorem clQ_in {ci : Nat} (h : ci < 7) : ∀ w ∈ u_ws (clQ ci).1 (clQ ci).2.1 (clQ ci).2.2, w ∈ oWL := c7 (P := fun ci => ∀ w ∈ u_ws (clQ ci).1 (clQ ci).2.1 (clQ ci).2.2, w ∈ oWL) inlX0 inlX1 inlX2 inlX3 inlX4 inlX5 inlX6 h
theorem clQ_ty {ci : Nat} (h : ci < 7) : ∀ k, k < (clQ ci).2.2 → parseFieldDescriptor ((clQ ci).2.1 k).2.2.1 = some (tyC ci k) := c7 (P := fun ci => ∀ k, k < (clQ ci).2.2 → parseFieldDescriptor ((clQ ci).2.1 k).2.2.1 = some (tyC ci k)) tyX0_ok tyX1_ok tyX2_ok tyX3_ok tyX4_ok tyX5_ok tyX6_ok h
theorem clQ_nm {ci : Nat} (h : ci < 7) : ∀ a, a < (clQ ci).2.2 → ∀ b, b < (clQ ci).2.2 → a ≠ b → ((clQ ci).2.1 a).2.1 ≠ ((clQ ci).2.1 b).2.1 := c7 (P := fun ci => ∀ a, a < (clQ ci).2.2 → ∀ b, b < (clQ ci).2.2 → a ≠ b → ((clQ ci).2.1 a).2.1 ≠ ((clQ ci).2.1 b).2.1) nmX0 nmX1 nmX2 nmX3 nmX4 nmX5 nmX6 h
def oFL (own : String) (idx ci k : Nat) (ty : FieldType) : Prop := ci < 7 ∧ k < nf ci ∧ tyC ci k = ty ∧ Cond.fieldLink own idx ((clQ ci).2.1 k).1 ((clQ ci).2.1 k).2.1 ((clQ ci).2.1 k).2.2.1 ∈ oWL
def tyR : FieldType → Bool
  | .object _ => true
  | .array _ => true
  | _ => false
theorem fv_int {G : oG} {ci : Nat} {h : oH} {a k : Nat} (hty : tyC ci k = .int) : fv G ci h a k = .int (hI h a k) := by unfold fv; rw [hty]
theorem fv_bool {G : oG} {ci : Nat} {h : oH} {a k : Nat} (hty : tyC ci k = .boolean) : fv G ci h a k = .int (hI h a k) := by unfold fv; rw [hty]
theorem fv_long {G : oG} {ci : Nat} {h : oH} {a k : Nat} (hty : tyC ci k = .long) : fv G ci h a k = .long (hJ h a k) := by unfold fv; rw [hty]
theorem fv_ref {G : oG} {ci : Nat} {h : oH} {a k : Nat} {ty : FieldType} (hty : tyC ci k = ty) (hr : tyR ty = true) : fv G ci h a k = va_rf ((hR h a k).map (fun i => G.1 + i)) := by
  unfold fv
  rw [hty]
  cases ty <;> first | rfl | exact absurd hr Bool.false_ne_true
theorem oE_obj {G : oG} {h : oH} {a ci : Nat} (ht : tg a = (0, ci)) : oE G h a = .inr (ci, (List.range (nf ci)).map (fv G ci h a)) := by unfold oE; rw [ht]; rfl
theorem fs_get {G : oG} {ci : Nat} {h : oH} {a k : Nat} (hk : k < nf ci) : ((List.range (nf ci)).map (fv G ci h a))[k]? = some (fv G ci h a k) := by rw [List.getElem?_map, List.getElem?_range hk]; rfl
theorem fs_set {G : oG} {ci : Nat} {h h' : oH} {a k : Nat} {v : Value} (hk : k < nf ci) (hv : fv G ci h' a k = v) (ho : ∀ j, j ≠ k → fv G ci h' a j = fv G ci h a j) : ((List.range (nf ci)).map (fv G ci h a)).set k v = (List.range (nf ci)).map (fv G ci h' a) := by
  apply List.ext_getElem?
  intro j
  by_cases hj : j < nf ci
  · rw [fs_get (h := h') hj]
    by_cases hjk : k = j
    · subst hjk
      rw [List.getElem?_set_self (by rw [List.length_map, List.length_range]; exact hk), hv]
    · rw [List.getElem?_set_ne hjk, fs_get hj, ho j (fun q => hjk q.symm)]
  · rw [List.getElem?_eq_none (by rw [List.length_set, List.length_map, List.length_range]; omega), List.getElem?_eq_none (by rw [List.length_map, List.length_range]; omega)]
theorem oV_rf (G : oG) (r : Option Nat) : oV G (va_rf r) = va_rf (r.map (fun i => G.1 + i)) := by cases r <;> rfl
def oQ (G : oG) (r : Option Value) (h : oH) : Array Value → State → Outcome → State → Prop := fun _ st o t => (o = .returned (r.map (oV G)) ∧ oRep G h t) ∧ va_F (fun q => G.1 ≤ q) st t
def oZ (G : oG) (below : List Frame) (args : Array Value) (s : State) (n0 nF : Nat) (r : Option Value) (h : oH) : State → Prop := MQ below (oQ G r h) args s (nF - n0) (sl nF - sl n0) (fun q => G.1 ≤ q)
/-- a method's contract: from the heap h with these arguments it answers r and leaves the heap h' -/
def oSp (G : oG) (M : oM) (as : List Value) (h : oH) (r : Option Value) (h' : oH) : Prop := h.1 ≤ h'.1 ∧ ∀ l : Launch, Met l M.1 (oW M) (oR M (h'.1 - h.1) (sl h'.1 - sl h.1)) (fun v U => v = (as.map (oV G)).toArray ∧ oRep G h U) (oQ G r h') (h'.1 - h.1) (sl h'.1 - sl h.1) (fun q => G.1 ≤ q)
def oFl : List Value → List (Option Value)
  | [] => []
  | v :: vs => if v.category = 2 then some v :: none :: oFl vs else some v :: oFl vs
def oEnt (as : List Value) (n : Nat) : List (Option Value) := oFl as ++ List.replicate (n - (oFl as).length) none
theorem oV_cat2 (G : oG) (v : Value) : (oV G v).category = v.category := by cases v <;> rfl
theorem oFl_len (G : oG) : ∀ as : List Value, (lg_sl (as.map (oV G))).length = (oFl as).length
  | [] => rfl
  | v :: vs => by
    have ih := oFl_len G vs
    simp only [lg_sl, List.map_cons, List.flatMap_cons, List.length_append, oV_cat2, oFl] at ih ⊢
    by_cases hc : v.category = 2
    · rw [if_pos hc, if_pos hc]
      simp only [List.length_cons, List.length_nil]
      omega
    · rw [if_neg hc, if_neg hc]
      simp only [List.length_cons, List.length_nil]
      omega
theorem oFl_args (G : oG) : ∀ (as : List Value) (b i : Nat) (v : Value), (oFl as)[i]? = some (some v) → (b + i, oV G v) ∈ lv_args b (as.map (oV G))
  | [], _, i, v, h => by simp [oFl] at h
  | w :: ws, b, i, v, h => by
    simp only [oFl] at h
    simp only [List.map_cons, lv_args, oV_cat2]
    by_cases hc : w.category = 2
    · rw [if_pos hc] at h ⊢
      match i, h with
      | 0, h =>
        simp only [List.getElem?_cons_zero, Option.some.injEq] at h
        rw [h]
        exact List.mem_cons_self
      | 1, h => simp at h
      | i + 2, h =>
        simp only [List.getElem?_cons_succ] at h
        have := oFl_args G ws (b + 2) i v h
        rw [show b + (i + 2) = b + 2 + i by omega]
        exact List.mem_cons_of_mem _ this
    · rw [if_neg hc] at h ⊢
      match i, h with
      | 0, h =>
        simp only [List.getElem?_cons_zero, Option.some.injEq] at h
        rw [h]
        exact List.mem_cons_self
      | i + 1, h =>
        simp only [List.getElem?_cons_succ] at h
        have := oFl_args G ws (b + 1) i v h
        rw [show b + (i + 1) = b + 1 + i by omega]
        exact List.mem_cons_of_mem _ this
theorem oEnt_ok (G : oG) {as : List Value} {n : Nat} (hn : (oFl as).length ≤ n) : oL G ((lg_sl (as.map (oV G)) ++ List.replicate (n - (lg_sl (as.map (oV G))).length) Slot.unset).toArray) n (oEnt as n) := by
  have h0 := lv_entry (as.map (oV G)) (n := n) (by rw [oFl_len]; exact hn)
  refine ⟨h0.1, h0.2.1, fun i v hi => ?_⟩
  have h1 : (oFl as)[i]? = some (some v) := by
    unfold oEnt at hi
    by_cases hl : i < (oFl as).length
    · rwa [List.getElem?_append_left hl] at hi
    · rw [List.getElem?_append_right (by omega)] at hi
      have := List.eq_of_mem_replicate (List.mem_of_getElem? hi)
      cases this
  have h2 := h0.2.2 _ (oFl_args G as 0 i v h1)
  rwa [Nat.zero_add] at h2
theorem oC.rep {G : oG} {M : oM} {n0 nF : Nat} {p : Program} {l : Launch} {R : Room} {s : State} {m : MethodId} {args : Array Value} {meth : Method} {c : Code} (C : oC G M n0 nF p l R s m args meth c) {h : oH} {H : Heap} {locs : List Loc} (hS : va_S (fun q => G.1 ≤ q) s.heap H locs) (hP : va_P G.2.1 vwCl (oWs G h) H) (hz : H.size = G.1 + h.1) : ∀ U : State, U.heap = H → s.WarmedH U.vm → oRep G h U := by
  obtain ⟨-, -, -, -, -, -, -, -, hK, hX, hXR, -⟩ := C
  intro U hU hW
  refine ⟨by rw [hU]; exact hP, by rw [hU]; exact hz, va_K.moved hW.alike hK, ?_, hXR.warm hW⟩
  rw [hU]
  exact (hX.kept hS.2.1).moved hW.alike
theorem Met.ofWF {l : Launch} {y : MethodName} {ws ws' : List Cond} {rm : Room} {Pc : Array Value → State → Prop} {Qc : Array Value → State → Outcome → State → Prop} {mc ms : Nat} {free : Addr → Prop} {cc : ByteArray} {maxL : Nat} {ret : Option FieldType}
    (hy : plainFor y = true) (hw : ws = Cond.code y cc maxL ret :: ws')
    (body : ∀ p e s m args below meth c s₁, BodyLoose p l y (headSpec ws rm) cc maxL ret e s m args below meth c s₁ → c.maxLocals = maxL → Pc args s →
      W p l e (headSpec ws rm).room s m args below meth c s.heap [] 0 0 (MQ below Qc args s mc ms free) (entryFrame m args maxL)) : Met l y ws rm Pc Qc mc ms free := by
  refine MetFree.of_bodySF (code := cc) (maxLocals := maxL) (ret := ret) hy ?_ ?_
  · intro args s m h hn
    obtain ⟨meth, c, h1, h2, h3, h4, h5, h6, -, -⟩ := Cond.code_spec hn (atoms_spec (ws := ws) h _ (by rw [hw]; exact List.mem_cons_self))
    exact ⟨meth, c, h1, h2, h3, h4, h5, h6⟩
  · intro p e s m args below meth c s₁ Bd hml hP _
    have hh0 : s₁.heap = s.heap := by rw [Bd.state]; rfl
    obtain ⟨t, a1, o, b1, b2, b3⟩ := body p e s m args below meth c s₁ Bd hml hP s₁ hh0 (Stand.of_body Bd)
    exact ⟨t, o, a1, b1, b2, ⟨b3.1, b3.2⟩⟩
theorem oSp.intro {G : oG} {M : oM} {as : List Value} {h : oH} {r : Option Value} {h' : oH} (L : List (Option Value)) (hL : oEnt as M.2.2.1 = L) (hn : (oFl as).length ≤ M.2.2.1) (hpl : plainFor M.1 = true) (hle : h.1 ≤ h'.1)
    (B : ∀ (p : Program) (l : Launch) (e : Env) (R : Room) (s : State) (m : MethodId) (args : Array Value) (below : List Frame) (meth : Method) (c : Code), oC G M h.1 h'.1 p l R s m args meth c → oS G M p l e R s m args below meth c (oZ G below args s h.1 h'.1 r h') h.1 0 L [] h) : oSp G M as h r h' := by
  refine ⟨hle, fun l => Met.ofWF (cc := M.2.1) (maxL := M.2.2.1) (ret := M.2.2.2.1) hpl rfl ?_⟩
  intro p e s m args below meth c s₁ Bd hml hv
  obtain ⟨rfl, hrep⟩ := hv
  have C : oC G M h.1 h'.1 p l (oR M (h'.1 - h.1) (sl h'.1 - sl h.1)) s m ((as.map (oV G)).toArray) meth c := ⟨Bd.exec, Bd.bytes, Bd.returns, hml, findClass_of_methodNamed Bd.named, fun w hw => atoms_spec (ws := oW M) Bd.pre w (List.mem_cons_of_mem _ hw), Bd.notSynchronized, (name_of_methodNamed Bd.named Bd.method).1, hrep.2.2.1, hrep.2.2.2.1, hrep.2.2.2.2, by rw [hrep.2.1]; exact Nat.le_add_right _ _, Nat.le_refl _, Nat.le_refl _, Nat.le_refl _, Nat.le_refl _⟩
  have k := B p l e (oR M (h'.1 - h.1) (sl h'.1 - sl h.1)) s m _ below meth c C s.heap [] _ va_S.rf hrep.1 hrep.2.1 (Nat.le_refl _) (hL ▸ oEnt_ok G hn)
  rw [Nat.sub_self, Nat.sub_self] at k
  rw [lg_entry_eq]
  exact k
theorem wsL_good : ∀ w ∈ oWL, goodWord w = true := fun w h => (List.mem_filter.mp h).2
theorem wsL_gin {ws : List Cond} (h : ∀ w ∈ ws, w ∈ oWL) : GoodIn oWL ws := fun w hw => ⟨h w hw, good_of_word (wsL_good w (h w hw))⟩
/-- what the tables say of a method: its code row; called by an object; static -/
def oMc (M : oM) : Prop := Cond.code M.1 M.2.1 M.2.2.1 M.2.2.2.1 ∈ oWL ∧ Cond.initialized M.1.cls ∈ oWL ∧ M.1.cls ≠ "java/lang/invoke/MethodHandle" ∧ M.1.cls ≠ "java/lang/invoke/VarHandle"
def oMi (M : oM) : Prop := oMc M ∧ Cond.instanceMethod M.1 ∈ oWL
def oMv (M : oM) : Prop := oMi M ∧ Cond.selects M.1.cls M.1 M.1 ∈ oWL
def oMs (M : oM) : Prop := oMc M ∧ Cond.static M.1 ∈ oWL
def oN (M : oM) (n : Nat) : Prop := (parseMethodDescriptor M.1.desc).map (fun d => d.parameters.length) = some n
def oFit (M N : oM) : Prop := N.2.2.2.2.1 + 1 ≤ M.2.2.2.2.1 ∧ 8 + (N.2.2.1 + 11) + N.2.2.2.2.2 ≤ M.2.2.2.2.2
section OHEAP
variable {G : oG} {M : oM} {p : Program} {l : Launch} {e : Env} {R : Room} {s : State} {m : MethodId} {args : Array Value} {below : List Frame} {meth : Method} {c : Code} {Z : State → Prop} {n0 nF pc : Nat} {L : List (Option Value)} {S : List Value} {h : oH}
theorem r_get (C : oC G M n0 nF p l R s m args meth c) {a ci k idx : Nat} {ty : FieldType} {v : Value} (hd : decode M.2.1 pc = .ok (.getfield idx, 3)) (hf : oFL M.1.cls idx ci k ty) (ht : tg a = (0, ci)) (ha : a < h.1) (hv : fv G ci h a k = oV G v) (kk : oS G M p l e R s m args below meth c Z n0 (pc + 3) L (v :: S) h) : oS G M p l e R s m args below meth c Z n0 pc L (.ref a :: S) h := fun H locs ls i1 i2 i3 i4 i5 => by
  obtain ⟨hc7, hk, -, hw⟩ := hf
  have k1 := kk H locs ls i1 i2 i3 i4 i5
  obtain ⟨x1, x2, -, -, x5, x6, -, -, hK, -⟩ := C
  refine va_get (own := M.1.cls) (C := (clQ ci).1) (T := (clQ ci).2.1) (N := (clQ ci).2.2) x1 x2 x6 (clQ_in hc7) x5 hK i2 a ((oWs_get ha).trans (congrArg (fun z => some (G.1 + a, z)) (oE_obj ht))) (clQ_ok hc7) k (by rw [clQ_nf hc7]; exact hk) (x6 _ hw) (fun _ q => q) (fs_get hk) hd ?_
  rw [hv]
  exact k1
theorem r_getI (C : oC G M n0 nF p l R s m args meth c) {a ci k idx : Nat} (hd : decode M.2.1 pc = .ok (.getfield idx, 3)) (hf : oFL M.1.cls idx ci k .int) (ht : tg a = (0, ci)) (ha : a < h.1) (kk : oS G M p l e R s m args below meth c Z n0 (pc + 3) L (.int (hI h a k) :: S) h) : oS G M p l e R s m args below meth c Z n0 pc L (.ref a :: S) h := r_get C hd hf ht ha (fv_int hf.2.2.1) kk
theorem r_getZ (C : oC G M n0 nF p l R s m args meth c) {a ci k idx : Nat} (hd : decode M.2.1 pc = .ok (.getfield idx, 3)) (hf : oFL M.1.cls idx ci k .boolean) (ht : tg a = (0, ci)) (ha : a < h.1) (kk : oS G M p l e R s m args below meth c Z n0 (pc + 3) L (.int (hI h a k) :: S) h) : oS G M p l e R s m args below meth c Z n0 pc L (.ref a :: S) h := r_get C hd hf ht ha (fv_bool hf.2.2.1) kk
theorem r_getJ (C : oC G M n0 nF p l R s m args meth c) {a ci k idx : Nat} (hd : decode M.2.1 pc = .ok (.getfield idx, 3)) (hf : oFL M.1.cls idx ci k .long) (ht : tg a = (0, ci)) (ha : a < h.1) (kk : oS G M p l e R s m args below meth c Z n0 (pc + 3) L (.long (hJ h a k) :: S) h) : oS G M p l e R s m args below meth c Z n0 pc L (.ref a :: S) h := r_get C hd hf ht ha (fv_long hf.2.2.1) kk
theorem r_getR (C : oC G M n0 nF p l R s m args meth c) {a ci k idx : Nat} {ty : FieldType} {r : Option Nat} (hd : decode M.2.1 pc = .ok (.getfield idx, 3)) (hf : oFL M.1.cls idx ci k ty) (hty : tyR ty = true) (ht : tg a = (0, ci)) (ha : a < h.1) (hr : hR h a k = r) (kk : oS G M p l e R s m args below meth c Z n0 (pc + 3) L (va_rf r :: S) h) : oS G M p l e R s m args below meth c Z n0 pc L (.ref a :: S) h := r_get C hd hf ht ha (by rw [fv_ref hf.2.2.1 hty, hr, oV_rf]) kk
theorem r_put (C : oC G M n0 nF p l R s m args meth c) {a ci k idx : Nat} {ty : FieldType} {v : Value} (h' : oH) (hd : decode M.2.1 pc = .ok (.putfield idx, 3)) (hf : oFL M.1.cls idx ci k ty) (ht : tg a = (0, ci)) (ha : a < h.1) (hfin : ((clQ ci).2.1 k).2.2.2 = false ∨ (((clQ ci).2.1 k).2.2.2 = true ∧ M.1.name = "<init>" ∧ ((clQ ci).2.1 k).1 = M.1.cls)) (hn : narrow ty (oV G v) = oV G v) (hfit : fits ty (oV G v) = true)
    (h1 : h'.1 = h.1) (hv : fv G ci h' a k = oV G v) (ho : ∀ j, j ≠ k → fv G ci h' a j = fv G ci h a j) (ho2 : ∀ j, j ≠ a → oE G h' j = oE G h j) (kk : oS G M p l e R s m args below meth c Z n0 (pc + 3) L S h') : oS G M p l e R s m args below meth c Z n0 pc L (v :: .ref a :: S) h := fun H locs ls i1 i2 i3 i4 i5 => by
  obtain ⟨hc7, hk, hty, hw⟩ := hf
  obtain ⟨x1, x2, -, -, x5, x6, -, x8, hK, -⟩ := C
  have e1 : (oWs G h).set a (G.1 + a, .inr (ci, ((List.range (nf ci)).map (fv G ci h a)).set k (oV G v))) = oWs G h' := oWs_set h1 ho2 (by rw [oE_obj ht, fs_set hk hv ho])
  have hk2 : k < (clQ ci).2.2 := by rw [clQ_nf hc7]; exact hk
  have hlen : k < ((List.range (nf ci)).map (fv G ci h a)).length := by rw [List.length_map, List.length_range]; exact hk
  have hd2 : parseFieldDescriptor ((clQ ci).2.1 k).2.2.1 = some ty := by rw [clQ_ty hc7 k hk2, hty]
  have kf : ∀ (H1 : Heap) (locs1 : List Loc), va_P G.2.1 vwCl ((oWs G h).set a (G.1 + a, .inr (ci, ((List.range (nf ci)).map (fv G ci h a)).set k (oV G v)))) H1 → va_S (fun q => G.1 ≤ q) s.heap H1 locs1 → H1.size = H.size → W p l e R s m args below meth c H1 locs1 (h.1 - n0) (sl h.1 - sl n0) Z (F0 m (pc + 3) ls (S.map (oV G))) := by
    intro H1 locs1 q1 q2 q3
    rw [e1] at q1
    have k1 := kk H1 locs1 ls q2 q1 (by rw [q3, i3, h1]) (by rw [h1]; exact i4) i5
    rw [h1] at k1
    exact k1
  have he := (oWs_get (G := G) ha).trans (congrArg (fun z => some (G.1 + a, z)) (oE_obj ht))
  obtain ⟨r0, hr1, cell, q1, q2, q3, q4⟩ := i2 a _ he
  have hr : r0 = clQ ci := Option.some.inj (hr1.symm.trans (clQ_ok hc7))
  subst hr
  have hap := va_apart (own := M.1.cls) x6 (clQ_in hc7) (tyC ci) (clQ_ty hc7) (clQ_nm hc7) hK (clQ_ok hc7)
  obtain ⟨hSl, hfc, kC, hkC, hkind⟩ := hK.1 ci _ (clQ_ok hc7)
  obtain ⟨cf, kf0, fi, f, hi, hsl⟩ := hSl k hk2
  have hst := (u_facts hfc hkC (u_lays x6 (clQ_in hc7) hk2) hi).1
  have hlay := x6 _ (clQ_in hc7 _ (u_in_lay hk2))
  rcases hfin with hfin | ⟨hfin, hin2, hdecl⟩
  · unfold u_lay at hlay
    rw [if_neg (by rw [hfin]; decide)] at hlay
    have h6 := u_store hfc hkC hkind hlay hi hd2 hn hfit
    refine W.putK x1 x2 (f := f) ⟨x5, x6 _ hw, ⟨_, _, _, hi⟩, hst⟩ (by rw [q2]; exact h6) q1 q3 (by rw [hsl]; exact k2_hasslot (q4 k hk2)) rfl rfl hd fun H' e1' e2' e3' => ?_
    rw [hsl] at e1' ⊢
    exact kf H' _ (i2.set (oWs_D G h) he ⟨_, clQ_ok hc7, t_OB.to (V := updV (vp_V ((List.range (nf ci)).map (fv G ci h a))) k (oV G v)) ⟨_, e1', q2, q3, t_set q4 hap hk2 _⟩ (fun j _ => vp_updV_set hlen _ j)⟩ e3') (i1.put e2' e3' ((oWs_D G h).2 a _ he)) e2'
  · unfold u_lay at hlay
    rw [if_pos hfin] at hlay
    have hcf : m.cls = cf := by
      obtain ⟨_, _, c', _, _, _, -, -, hf', -, -, -, hown2, -⟩ := Cond.laysFinal_spec hlay
      have e1 : c' = cf := by have := hi.symm.trans hf'; simp at this; exact this.1.symm
      rw [hdecl] at hown2
      rw [← e1]; exact Option.some.inj (x5.symm.trans hown2)
    have h6 := u_fits hfc hkC hkind (Or.inr hlay) hi hd2 hn hfit
    refine W.putFinK x1 x2 x5 (x6 _ hw) hi hst hcf (x8.trans hin2) (by rw [q2]; exact h6) q1 q3 (by rw [hsl]; exact k2_hasslot (q4 k hk2)) rfl rfl hd fun H' e1' e2' e3' => ?_
    rw [hsl] at e1' ⊢
    exact kf H' _ (i2.set (oWs_D G h) he ⟨_, clQ_ok hc7, t_OB.to (V := updV (vp_V ((List.range (nf ci)).map (fv G ci h a))) k (oV G v)) ⟨_, e1', q2, q3, t_set q4 hap hk2 _⟩ (fun j _ => vp_updV_set hlen _ j)⟩ e3') (i1.put e2' e3' ((oWs_D G h).2 a _ he)) e2'
theorem r_putI (C : oC G M n0 nF p l R s m args meth c) {a ci k idx : Nat} {x : Int32} (hd : decode M.2.1 pc = .ok (.putfield idx, 3)) (hf : oFL M.1.cls idx ci k .int) (ht : tg a = (0, ci)) (ha : a < h.1) (hfin : ((clQ ci).2.1 k).2.2.2 = false ∨ (((clQ ci).2.1 k).2.2.2 = true ∧ M.1.name = "<init>" ∧ ((clQ ci).2.1 k).1 = M.1.cls)) (kk : oS G M p l e R s m args below meth c Z n0 (pc + 3) L S (sI h a k x)) : oS G M p l e R s m args below meth c Z n0 pc L (.int x :: .ref a :: S) h :=
  r_put C (sI h a k x) hd hf ht ha hfin rfl rfl rfl ((fv_int hf.2.2.1).trans (by rw [hI_sI, if_pos ⟨rfl, rfl⟩]; rfl)) (fun j hj => by simp only [fv, hI_sI, hJ_sI, hR_sI]; rw [if_neg (fun q => hj q.2)]) (fun j hj => oE_ext (fun k => by rw [hI_sI, if_neg (fun q => hj q.1)]) (fun k => rfl) (fun k => rfl)) kk
theorem r_putZ (C : oC G M n0 nF p l R s m args meth c) {a ci k idx : Nat} {x : Int32} (hd : decode M.2.1 pc = .ok (.putfield idx, 3)) (hf : oFL M.1.cls idx ci k .boolean) (ht : tg a = (0, ci)) (ha : a < h.1) (hfin : ((clQ ci).2.1 k).2.2.2 = false ∨ (((clQ ci).2.1 k).2.2.2 = true ∧ M.1.name = "<init>" ∧ ((clQ ci).2.1 k).1 = M.1.cls)) (hx : narrow .boolean (.int x) = .int x ∧ fits .boolean (.int x) = true) (kk : oS G M p l e R s m args below meth c Z n0 (pc + 3) L S (sI h a k x)) : oS G M p l e R s m args below meth c Z n0 pc L (.int x :: .ref a :: S) h :=
  r_put C (sI h a k x) hd hf ht ha hfin hx.1 hx.2 rfl ((fv_bool hf.2.2.1).trans (by rw [hI_sI, if_pos ⟨rfl, rfl⟩]; rfl)) (fun j hj => by simp only [fv, hI_sI, hJ_sI, hR_sI]; rw [if_neg (fun q => hj q.2)]) (fun j hj => oE_ext (fun k => by rw [hI_sI, if_neg (fun q => hj q.1)]) (fun k => rfl) (fun k => rfl)) kk
theorem r_putJ (C : oC G M n0 nF p l R s m args meth c) {a ci k idx : Nat} {x : Int64} (hd : decode M.2.1 pc = .ok (.putfield idx, 3)) (hf : oFL M.1.cls idx ci k .long) (ht : tg a = (0, ci)) (ha : a < h.1) (hfin : ((clQ ci).2.1 k).2.2.2 = false ∨ (((clQ ci).2.1 k).2.2.2 = true ∧ M.1.name = "<init>" ∧ ((clQ ci).2.1 k).1 = M.1.cls)) (kk : oS G M p l e R s m args below meth c Z n0 (pc + 3) L S (sJ h a k x)) : oS G M p l e R s m args below meth c Z n0 pc L (.long x :: .ref a :: S) h :=
  r_put C (sJ h a k x) hd hf ht ha hfin rfl rfl rfl ((fv_long hf.2.2.1).trans (by rw [hJ_sJ, if_pos ⟨rfl, rfl⟩]; rfl)) (fun j hj => by simp only [fv, hI_sJ, hJ_sJ, hR_sJ]; rw [if_neg (fun q => hj q.2)]) (fun j hj => oE_ext (fun k => rfl) (fun k => by rw [hJ_sJ, if_neg (fun q => hj q.1)]) (fun k => rfl)) kk
theorem r_putR (C : oC G M n0 nF p l R s m args meth c) {a ci k idx : Nat} {ty : FieldType} {v : Value} (r : Option Nat) (hv : v = va_rf r) (hd : decode M.2.1 pc = .ok (.putfield idx, 3)) (hf : oFL M.1.cls idx ci k ty) (hty : tyR ty = true) (ht : tg a = (0, ci)) (ha : a < h.1) (hfin : ((clQ ci).2.1 k).2.2.2 = false ∨ (((clQ ci).2.1 k).2.2.2 = true ∧ M.1.name = "<init>" ∧ ((clQ ci).2.1 k).1 = M.1.cls)) (kk : oS G M p l e R s m args below meth c Z n0 (pc + 3) L S (sR h a k r)) : oS G M p l e R s m args below meth c Z n0 pc L (v :: .ref a :: S) h := by
  subst hv
  have hnf : narrow ty (oV G (va_rf r)) = oV G (va_rf r) ∧ fits ty (oV G (va_rf r)) = true := by
    cases ty <;> first | exact absurd hty Bool.false_ne_true | (cases r <;> exact ⟨rfl, rfl⟩)
  exact r_put C (sR h a k r) hd hf ht ha hfin hnf.1 hnf.2 rfl ((fv_ref hf.2.2.1 hty).trans (by rw [hR_sR, if_pos ⟨rfl, rfl⟩, oV_rf])) (fun j hj => by simp only [fv, hI_sR, hJ_sR, hR_sR]; rw [if_neg (fun q => hj q.2)]) (fun j hj => oE_ext (fun k => rfl) (fun k => rfl) (fun k => by rw [hR_sR, if_neg (fun q => hj q.1)])) kk
/-! arrays -/
theorem oE_i {a n : Nat} (ht : tg a = (1, n)) : oE G h a = .inl (G.2.2.1 0, n, .inl (hI h a)) := by unfold oE; rw [ht]; rfl
theorem oE_b {a n : Nat} (ht : tg a = (2, n)) : oE G h a = .inl (G.2.2.1 1, n, .inl (hI h a)) := by unfold oE; rw [ht]; rfl
theorem oE_z {a n : Nat} (ht : tg a = (3, n)) : oE G h a = .inl (G.2.2.1 2, n, .inl (hI h a)) := by unfold oE; rw [ht]; rfl
theorem oE_q {a n : Nat} (ht : tg a = (4, n)) : oE G h a = .inl (G.2.2.1 3, n, .inr (.inr (.inr (.inr (fun j => (hR h a j).map (fun i => G.1 + i)))))) := by unfold oE; rw [ht]; rfl
theorem r_alen (C : oC G M n0 nF p l R s m args meth c) {a t n : Nat} (v : Int32) (hd : decode M.2.1 pc = .ok (.arraylength, 1)) (ht : tg a = (t, n)) (h0 : t = 1 ∨ t = 2 ∨ t = 3 ∨ t = 4) (ha : a < h.1) (hv : Int32.ofNat n = v) (kk : oS G M p l e R s m args below meth c Z n0 (pc + 1) L (.int v :: S) h) : oS G M p l e R s m args below meth c Z n0 pc L (.ref a :: S) h := fun H locs ls i1 i2 i3 i4 i5 => by
  have k1 := kk H locs ls i1 i2 i3 i4 i5
  obtain ⟨x1, x2, -, -, x5, x6, -, -, hK, -⟩ := C
  rcases h0 with rfl | rfl | rfl | rfl
  · exact va_alen x1 x2 hK i2 a 0 ((oWs_get ha).trans (congrArg (fun z => some (G.1 + a, z)) (oE_i ht))) rfl hv hd k1
  · exact va_alen x1 x2 hK i2 a 1 ((oWs_get ha).trans (congrArg (fun z => some (G.1 + a, z)) (oE_b ht))) rfl hv hd k1
  · exact va_alen x1 x2 hK i2 a 2 ((oWs_get ha).trans (congrArg (fun z => some (G.1 + a, z)) (oE_z ht))) rfl hv hd k1
  · exact va_alen x1 x2 hK i2 a 3 ((oWs_get ha).trans (congrArg (fun z => some (G.1 + a, z)) (oE_q ht))) rfl hv hd k1
theorem vin_of {i : Int32} {j n : Nat} (hi : i.toInt = j) (hj : j < n) : vp_in i n ∧ i.toNatClampNeg = j := by
  have e : i.toNatClampNeg = j := by show i.toInt.toNat = j; omega
  refine ⟨fun q => ?_, e⟩
  rcases q with q | q
  · have := Int32.lt_iff_toInt_lt.mp q
    simp only [Int32.toInt_zero] at this
    omega
  · omega
theorem r_iald (C : oC G M n0 nF p l R s m args meth c) {a n : Nat} {i : Int32} (j : Nat) (hi : i.toInt = j) (hj : j < n) (hd : decode M.2.1 pc = .ok (.iaload, 1)) (ht : tg a = (1, n)) (ha : a < h.1) (kk : oS G M p l e R s m args below meth c Z n0 (pc + 1) L (.int (hI h a j) :: S) h) : oS G M p l e R s m args below meth c Z n0 pc L (.int i :: .ref a :: S) h := fun H locs ls i1 i2 i3 i4 i5 => by
  have k1 := kk H locs ls i1 i2 i3 i4 i5
  obtain ⟨x1, x2, -, -, x5, x6, -, -, hK, -⟩ := C
  obtain ⟨g1, g2⟩ := vin_of hi hj
  refine va_iald x1 x2 hK i2 a 0 ((oWs_get ha).trans (congrArg (fun z => some (G.1 + a, z)) (oE_i ht))) rfl g1 hd ?_
  rw [g2]
  exact k1
theorem r_bald (C : oC G M n0 nF p l R s m args meth c) {a n : Nat} {i : Int32} (j : Nat) (hi : i.toInt = j) (hj : j < n) (hd : decode M.2.1 pc = .ok (.baload, 1)) (ht : tg a = (2, n)) (ha : a < h.1) (kk : oS G M p l e R s m args below meth c Z n0 (pc + 1) L (.int (hI h a j) :: S) h) : oS G M p l e R s m args below meth c Z n0 pc L (.int i :: .ref a :: S) h := fun H locs ls i1 i2 i3 i4 i5 => by
  have k1 := kk H locs ls i1 i2 i3 i4 i5
  obtain ⟨x1, x2, -, -, x5, x6, -, -, hK, -⟩ := C
  obtain ⟨g1, g2⟩ := vin_of hi hj
  refine va_bald x1 x2 hK i2 a 1 ((oWs_get ha).trans (congrArg (fun z => some (G.1 + a, z)) (oE_b ht))) rfl g1 hd ?_
  rw [g2]
  exact k1
theorem r_zald (C : oC G M n0 nF p l R s m args meth c) {a n : Nat} {i : Int32} (j : Nat) (hi : i.toInt = j) (hj : j < n) (hd : decode M.2.1 pc = .ok (.baload, 1)) (ht : tg a = (3, n)) (ha : a < h.1) (kk : oS G M p l e R s m args below meth c Z n0 (pc + 1) L (.int (hI h a j) :: S) h) : oS G M p l e R s m args below meth c Z n0 pc L (.int i :: .ref a :: S) h := fun H locs ls i1 i2 i3 i4 i5 => by
  have k1 := kk H locs ls i1 i2 i3 i4 i5
  obtain ⟨x1, x2, -, -, x5, x6, -, -, hK, -⟩ := C
  obtain ⟨g1, g2⟩ := vin_of hi hj
  refine va_zald x1 x2 hK i2 a 2 ((oWs_get ha).trans (congrArg (fun z => some (G.1 + a, z)) (oE_z ht))) rfl g1 hd ?_
  rw [g2]
  exact k1
theorem r_aald (C : oC G M n0 nF p l R s m args meth c) {a n : Nat} {i : Int32} {r : Option Nat} (j : Nat) (hi : i.toInt = j) (hj : j < n) (hd : decode M.2.1 pc = .ok (.aaload, 1)) (ht : tg a = (4, n)) (ha : a < h.1) (hr : hR h a j = r) (kk : oS G M p l e R s m args below meth c Z n0 (pc + 1) L (va_rf r :: S) h) : oS G M p l e R s m args below meth c Z n0 pc L (.int i :: .ref a :: S) h := fun H locs ls i1 i2 i3 i4 i5 => by
  have k1 := kk H locs ls i1 i2 i3 i4 i5
  obtain ⟨x1, x2, -, -, x5, x6, -, -, hK, -⟩ := C
  obtain ⟨g1, g2⟩ := vin_of hi hj
  refine va_aldq x1 x2 hK i2 a 3 ((oWs_get ha).trans (congrArg (fun z => some (G.1 + a, z)) (oE_q ht))) rfl g1 hd ?_
  rw [g2, hr, ← oV_rf]
  exact k1
theorem set_sz {A : Nat → Prop} {H0 H H1 : Heap} {D : va_G} {ws : va_W} (z : H1.size = H.size) : H1.size = H.size := z
theorem r_iast (C : oC G M n0 nF p l R s m args meth c) {a n : Nat} {i x : Int32} (j : Nat) (hi : i.toInt = j) (hj : j < n) (hd : decode M.2.1 pc = .ok (.iastore, 1)) (ht : tg a = (1, n)) (ha : a < h.1) (kk : oS G M p l e R s m args below meth c Z n0 (pc + 1) L S (sI h a j x)) : oS G M p l e R s m args below meth c Z n0 pc L (.int x :: .int i :: .ref a :: S) h := fun H locs ls i1 i2 i3 i4 i5 => by
  obtain ⟨x1, x2, -, -, x5, x6, -, -, hK, -⟩ := C
  obtain ⟨g1, g2⟩ := vin_of hi hj
  have he := (oWs_get (G := G) ha).trans (congrArg (fun z => some (G.1 + a, z)) (oE_i ht))
  refine W.iast x1 x2 (i2 a _ he) ((hK.2 0 _ rfl).1 n (fun j => .int (hI h a j))) (fun q => by cases q) (by show ¬ (i < 0 ∨ (arrV _ _ _).slots.size ≤ _); rw [arrV_size]; exact g1) rfl rfl hd fun H1 e1 z1 oq => ?_
  have e0 : upd (hI h a) j x = hI (sI h a j x) a := funext fun k => by
    rw [hI_sI]
    by_cases hk : k = j
    · rw [if_pos ⟨rfl, hk⟩]; simp [upd, hk]
    · rw [if_neg (fun q => hk q.2)]; simp [upd, hk]
  have e2 : (oWs G h).set a (G.1 + a, .inl (G.2.2.1 0, n, .inl (upd (hI h a) j x))) = oWs G (sI h a j x) := by
    rw [e0]
    exact oWs_set (h := h) (h' := sI h a j x) rfl (fun b hb => oE_ext (h := h) (h' := sI h a j x) (fun k => by rw [hI_sI, if_neg (fun q => hb q.1)]) (fun k => rfl) (fun k => rfl)) (oE_i (G := G) (h := sI h a j x) ht).symm
  have q1 : va_P G.2.1 vwCl ((oWs G h).set a (G.1 + a, .inl (G.2.2.1 0, n, .inl (upd (hI h a) j x)))) H1 := i2.set (oWs_D G h) he (by
    show H1[G.1 + a]? = some (vp_cell _ _)
    rw [e1]
    show some ((vp_cell _ _).setSlot _ _) = _
    rw [vp_cell_i, vp_cell_i, arrV_store, g2]
    congr 2
    funext q
    by_cases hq : q = j
    · subst hq
      simp [updV, upd]
    · simp [updV, upd, hq]) oq
  rw [e2] at q1
  exact kk H1 _ ls (i1.put z1 oq ((oWs_D G h).2 a _ he)) q1 (by rw [z1, i3]; rfl) i4 i5
theorem r_bast (C : oC G M n0 nF p l R s m args meth c) {a n : Nat} {i x : Int32} (j : Nat) (y : Int32) (hy : narrow .byte (.int x) = .int y) (hi : i.toInt = j) (hj : j < n) (hd : decode M.2.1 pc = .ok (.bastore, 1)) (ht : tg a = (2, n)) (ha : a < h.1) (kk : oS G M p l e R s m args below meth c Z n0 (pc + 1) L S (sI h a j y)) : oS G M p l e R s m args below meth c Z n0 pc L (.int x :: .int i :: .ref a :: S) h := fun H locs ls i1 i2 i3 i4 i5 => by
  obtain ⟨x1, x2, -, -, x5, x6, -, -, hK, -⟩ := C
  obtain ⟨g1, g2⟩ := vin_of hi hj
  have he := (oWs_get (G := G) ha).trans (congrArg (fun z => some (G.1 + a, z)) (oE_b ht))
  refine W.bast x1 x2 (i2 a _ he) ((hK.2 1 _ rfl).1 n (fun j => .int (hI h a j))) (fun q => by cases q) (by show ¬ (i < 0 ∨ (arrV _ _ _).slots.size ≤ _); rw [arrV_size]; exact g1) rfl rfl hd fun H1 e1 z1 oq => ?_
  have e0 : upd (hI h a) j y = hI (sI h a j y) a := funext fun k => by
    rw [hI_sI]
    by_cases hk : k = j
    · rw [if_pos ⟨rfl, hk⟩]; simp [upd, hk]
    · rw [if_neg (fun q => hk q.2)]; simp [upd, hk]
  have e2 : (oWs G h).set a (G.1 + a, .inl (G.2.2.1 1, n, .inl (upd (hI h a) j y))) = oWs G (sI h a j y) := by
    rw [e0]
    exact oWs_set (h := h) (h' := sI h a j y) rfl (fun b hb => oE_ext (h := h) (h' := sI h a j y) (fun k => by rw [hI_sI, if_neg (fun q => hb q.1)]) (fun k => rfl) (fun k => rfl)) (oE_b (G := G) (h := sI h a j y) ht).symm
  have q1 : va_P G.2.1 vwCl ((oWs G h).set a (G.1 + a, .inl (G.2.2.1 1, n, .inl (upd (hI h a) j y)))) H1 := i2.set (oWs_D G h) he (by
    show H1[G.1 + a]? = some (vp_cell _ _)
    rw [e1, hy]
    show some ((vp_cell _ _).setSlot _ _) = _
    rw [vp_cell_i, vp_cell_i, arrV_store, g2]
    congr 2
    funext q
    by_cases hq : q = j
    · subst hq
      simp [updV, upd]
    · simp [updV, upd, hq]) oq
  rw [e2] at q1
  exact kk H1 _ ls (i1.put z1 oq ((oWs_D G h).2 a _ he)) q1 (by rw [z1, i3]; rfl) i4 i5
theorem r_zast (C : oC G M n0 nF p l R s m args meth c) {a n : Nat} {i x : Int32} (j : Nat) (y : Int32) (hy : narrow .boolean (.int x) = .int y) (hi : i.toInt = j) (hj : j < n) (hd : decode M.2.1 pc = .ok (.bastore, 1)) (ht : tg a = (3, n)) (ha : a < h.1) (kk : oS G M p l e R s m args below meth c Z n0 (pc + 1) L S (sI h a j y)) : oS G M p l e R s m args below meth c Z n0 pc L (.int x :: .int i :: .ref a :: S) h := fun H locs ls i1 i2 i3 i4 i5 => by
  obtain ⟨x1, x2, -, -, x5, x6, -, -, hK, -⟩ := C
  obtain ⟨g1, g2⟩ := vin_of hi hj
  have he := (oWs_get (G := G) ha).trans (congrArg (fun z => some (G.1 + a, z)) (oE_z ht))
  refine W.zast x1 x2 (i2 a _ he) ((hK.2 2 _ rfl).1 n (fun j => .int (hI h a j))) (fun q => by cases q) (by show ¬ (i < 0 ∨ (arrV _ _ _).slots.size ≤ _); rw [arrV_size]; exact g1) rfl rfl hd fun H1 e1 z1 oq => ?_
  have e0 : upd (hI h a) j y = hI (sI h a j y) a := funext fun k => by
    rw [hI_sI]
    by_cases hk : k = j
    · rw [if_pos ⟨rfl, hk⟩]; simp [upd, hk]
    · rw [if_neg (fun q => hk q.2)]; simp [upd, hk]
  have e2 : (oWs G h).set a (G.1 + a, .inl (G.2.2.1 2, n, .inl (upd (hI h a) j y))) = oWs G (sI h a j y) := by
    rw [e0]
    exact oWs_set (h := h) (h' := sI h a j y) rfl (fun b hb => oE_ext (h := h) (h' := sI h a j y) (fun k => by rw [hI_sI, if_neg (fun q => hb q.1)]) (fun k => rfl) (fun k => rfl)) (oE_z (G := G) (h := sI h a j y) ht).symm
  have q1 : va_P G.2.1 vwCl ((oWs G h).set a (G.1 + a, .inl (G.2.2.1 2, n, .inl (upd (hI h a) j y)))) H1 := i2.set (oWs_D G h) he (by
    show H1[G.1 + a]? = some (vp_cell _ _)
    rw [e1, hy]
    show some ((vp_cell _ _).setSlot _ _) = _
    rw [vp_cell_i, vp_cell_i, arrV_store, g2]
    congr 2
    funext q
    by_cases hq : q = j
    · subst hq
      simp [updV, upd]
    · simp [updV, upd, hq]) oq
  rw [e2] at q1
  exact kk H1 _ ls (i1.put z1 oq ((oWs_D G h).2 a _ he)) q1 (by rw [z1, i3]; rfl) i4 i5
/-- a house into the row of houses -/
theorem r_aast (C : oC G M n0 nF p l R s m args meth c) {a b n : Nat} {i : Int32} (j : Nat) (hi : i.toInt = j) (hj : j < n) (hd : decode M.2.1 pc = .ok (.aastore, 1)) (ht : tg a = (4, n)) (ha : a < h.1) (htb : tg b = (0, 1)) (hb : b < h.1) (kk : oS G M p l e R s m args below meth c Z n0 (pc + 1) L S (sR h a j (some b))) : oS G M p l e R s m args below meth c Z n0 pc L (.ref b :: .int i :: .ref a :: S) h := fun H locs ls i1 i2 i3 i4 i5 => by
  obtain ⟨x1, x2, -, -, x5, x6, -, -, hK, -⟩ := C
  obtain ⟨g1, g2⟩ := vin_of hi hj
  have he := (oWs_get (G := G) ha).trans (congrArg (fun z => some (G.1 + a, z)) (oE_q ht))
  have heb := (oWs_get (G := G) hb).trans (congrArg (fun z => some (G.1 + b, z)) (oE_obj htb))
  obtain ⟨r', hr', cellV, w1, w2, w3, -⟩ := i2 b _ heb
  have hcls := (hK.1 1 _ (clQ_ok (by decide))).2
  obtain ⟨kA, comp, k1, k2, k3, -⟩ := (hK.2 3 _ rfl).2
  have hcomp : comp = G.2.1.1 1 := Option.some.inj (k3.symm.trans hcls.1)
  subst hcomp
  obtain ⟨kC, hkC, -⟩ := hcls.2
  refine W.aast x1 x2 (i2 a _ he) (fun q h => by cases h) (fun h => by cases h) k1 k2 rfl hkC ⟨fun q => g1 (Or.inl q), by show _ < (arrV _ _ _).slots.size; rw [arrV_size, g2]; exact hj⟩ w1 (fun q h => by rw [w3] at h; cases h) (by rw [w2]; exact hkC) (by rw [w2]; exact va_assign hcls) rfl rfl hd fun H1 e1 z1 oq => ?_
  have e0 : va_up (fun j => (hR h a j).map (fun i => G.1 + i)) j (some (G.1 + b)) = (fun k => (hR (sR h a j (some b)) a k).map (fun i => G.1 + i)) := funext fun k => by
    rw [hR_sR]
    by_cases hk : k = j
    · rw [if_pos ⟨rfl, hk⟩]; simp [va_up, hk]
    · rw [if_neg (fun q => hk q.2)]; simp [va_up, hk]
  have e2 : (oWs G h).set a (G.1 + a, .inl (G.2.2.1 3, n, .inr (.inr (.inr (.inr (va_up (fun j => (hR h a j).map (fun i => G.1 + i)) j (some (G.1 + b)))))))) = oWs G (sR h a j (some b)) := by
    rw [e0]
    exact oWs_set (h := h) (h' := sR h a j (some b)) rfl (fun b' hb => oE_ext (h := h) (h' := sR h a j (some b)) (fun k => rfl) (fun k => rfl) (fun k => by rw [hR_sR, if_neg (fun q => hb q.1)])) (oE_q (G := G) (h := sR h a j (some b)) ht).symm
  have q1 : va_P G.2.1 vwCl ((oWs G h).set a (G.1 + a, .inl (G.2.2.1 3, n, .inr (.inr (.inr (.inr (va_up (fun j => (hR h a j).map (fun i => G.1 + i)) j (some (G.1 + b))))))))) H1 := i2.set (oWs_D G h) he (by
    show H1[G.1 + a]? = some (vp_cell _ _)
    rw [e1]
    show some ((vp_cell _ _).setSlot _ _) = _
    rw [vp_cell_q, vp_cell_q, arrV_store, g2]
    congr 2
    funext q
    by_cases hq : q = j
    · subst hq
      simp [updV, va_up, va_rf, oV]
    · simp [updV, va_up, hq]) oq
  rw [e2] at q1
  exact kk H1 _ ls (i1.put z1 oq ((oWs_D G h).2 a _ he)) q1 (by rw [z1, i3]; rfl) i4 i5
/-! what is made -/
theorem new_b {n0 n nF cells : Nat} (h0 : n0 ≤ n) (h1 : n + 1 ≤ nF) (hc : nF - n0 ≤ cells) : n - n0 + 1 ≤ cells := by omega
theorem new_s {n0 n nF slots k : Nat} (h0 : n0 ≤ n) (h1 : n + 1 ≤ nF) (hk : sl (n + 1) = sl n + k) (hc : sl nF - sl n0 ≤ slots) : sl n - sl n0 + k ≤ slots := by
  have := sl_mono h1
  have := sl_mono h0
  omega
theorem new_e {n0 n k : Nat} (h0 : n0 ≤ n) (hk : sl (n + 1) = sl n + k) : sl n - sl n0 + k = sl (n + 1) - sl n0 := by
  have := sl_mono h0
  omega
theorem new_c {n0 n : Nat} (h0 : n0 ≤ n) : n - n0 + 1 = n + 1 - n0 := by omega
theorem oWs_old {G : oG} {h : oH} {H H1 : Heap} (hP : va_P G.2.1 vwCl (oWs G h) H) (o1 : ∀ q, q < H.size → H1[q]? = H[q]?) : va_P G.2.1 vwCl (oWs G h) H1 := hP.kept fun k x hx => o1 x.1 ((hP k x hx).lt)
theorem oP_push {G : oG} {h : oH} {H1 : Heap} {e : va_E} (hP : va_P G.2.1 vwCl (oWs G h) H1) (he : e = oE G (hAl h) h.1) (ha : va_at G.2.1 vwCl (G.1 + h.1, e) H1) : va_P G.2.1 vwCl (oWs G (hAl h)) H1 := by
  rw [← oWs_push he]
  refine hP.app (fun k x hx => ?_)
  have hz : k < 1 := (List.getElem?_eq_some_iff.mp hx).1
  rw [show k = 0 by omega] at hx
  cases hx
  exact ha
theorem hAl_I (h : oH) (k : Nat) : hI (hAl h) h.1 k = 0 := if_pos rfl
theorem hAl_J (h : oH) (k : Nat) : hJ (hAl h) h.1 k = 0 := if_pos rfl
theorem hAl_R (h : oH) (k : Nat) : hR (hAl h) h.1 k = none := if_pos rfl
theorem oS_grow {A : Nat → Prop} {H0 H H1 : Heap} {locs : List Loc} (hS : va_S A H0 H locs) (hz : H.size ≤ H1.size) (o1 : ∀ q, q < H.size → H1[q]? = H[q]?) : va_S A H0 H1 locs := ⟨Nat.le_trans hS.1 hz, fun x h1 h2 => (o1 x (Nat.lt_of_lt_of_le h1 hS.1)).trans (hS.2.1 x h1 h2), hS.2.2⟩
def tyP : FieldType → Bool
  | .int => true
  | .long => true
  | .boolean => true
  | .object _ => true
  | .array _ => true
  | _ => false
theorem tyC_P {ci : Nat} (h : ci < 7) : ∀ k, k < nf ci → tyP (tyC ci k) = true := c7 (P := fun ci => ∀ k, k < nf ci → tyP (tyC ci k) = true) (by decide) (by decide) (by decide) (by decide) (by decide) (by decide) (by decide) h
theorem fv_new {G : oG} {h : oH} {ci k : Nat} (hp : tyP (tyC ci k) = true) : defaultValue (tyC ci k) = fv G ci (hAl h) h.1 k := by
  unfold fv
  rw [hAl_I, hAl_J, hAl_R]
  generalize tyC ci k = ty at hp ⊢
  cases ty <;> first | rfl | exact absurd hp Bool.false_ne_true
theorem r_new (C : oC G M n0 nF p l R s m args meth c) {ci idx : Nat} (hd : decode M.2.1 pc = .ok (.new idx, 3)) (hc7 : ci < 7) (ht : tg h.1 = (0, ci)) (hw1 : Cond.classLink M.1.cls idx (clQ ci).1 ∈ oWL) (hw2 : Cond.instantiable (clQ ci).1 (clQ ci).2.2 ∈ oWL) (hw3 : Cond.initialized (clQ ci).1 ∈ oWL) (hF : h.1 + 1 ≤ nF) (kk : oS G M p l e R s m args below meth c Z n0 (pc + 3) L (.ref h.1 :: S) (hAl h)) : oS G M p l e R s m args below meth c Z n0 pc L S h := fun H locs ls i1 i2 i3 i4 i5 => by
  obtain ⟨x1, x2, -, -, x5, x6, -, x8, hK, -, -, xB, -, -, xc, xs⟩ := C
  have hsl : sl (h.1 + 1) = sl h.1 + (clQ ci).2.2 := by rw [clQ_nf hc7]; show sl h.1 + szT (tg h.1) = _; rw [ht]; rfl
  have hKn := hK.1 ci _ (clQ_ok hc7)
  refine W.newcK x1 x2 x5 (x6 _ hw1) (x6 _ hw2) (x6 _ hw3) rfl hd (new_b i4 hF xc) (new_s i4 hF hsl xs) hKn.2.1 i3 fun H1 kC hkC e1 z1 o1 => ?_
  rw [← i3] at o1
  have q1 := oP_push (e := .inr (ci, (List.range (nf ci)).map (fv G ci (hAl h) h.1))) (oWs_old i2 o1) (oE_obj ht).symm ⟨_, clQ_ok hc7, (u_born (tyC ci) x6 (clQ_in hc7) hKn hkC e1 (clQ_ty hc7)).to (fun j hj => by
    rw [clQ_nf hc7] at hj
    show _ = vp_V _ j
    rw [vp_V, List.getD_eq_getElem?_getD, fs_get hj]
    exact fv_new (tyC_P hc7 j hj))⟩
  have k1 := kk H1 locs ls (oS_grow i1 (by rw [z1, i3]; omega) o1) q1 (by rw [z1]; rfl) (Nat.le_trans i4 (Nat.le_succ _)) i5
  rw [new_c i4, new_e i4 hsl]
  exact k1
theorem arr_cls {s : State} {cA cB : ClassId} {ty : FieldType} (h1 : s.vm.findClass ("[" ++ ty.toString) = some cA) (h2 : va_RA s cB ty) : cA = cB := by
  have h3 : s.vm.findClass ("[" ++ ty.toString) = some cB := by
    cases ty with
    | object C => obtain ⟨_, _, -, -, -, h⟩ := h2; exact h
    | _ => exact h2
  exact Option.some.inj (h1.symm.trans h3)
theorem r_newarr (C : oC G M n0 nF p l R s m args meth c) {at_ : ArrayType} {n j tt : Nat} {ty : FieldType} {x : Int32} (hd : decode M.2.1 pc = .ok (.newarray at_, 2)) (hty : newarray.typeOf at_ = ty) (hw : Cond.arrayClass ty ∈ oWL) (hj : (oTys G)[j]? = some (G.2.2.1 j, ty)) (hdf : defaultValue ty = .int 0) (hx : x.toInt = n) (hb : n * componentBytes ty ≤ 536870912) (ht : tg h.1 = (tt, n)) (htt : (tt = 1 ∧ j = 0) ∨ (tt = 2 ∧ j = 1) ∨ (tt = 3 ∧ j = 2)) (hF : h.1 + 1 ≤ nF) (kk : oS G M p l e R s m args below meth c Z n0 (pc + 2) L (.ref h.1 :: S) (hAl h)) : oS G M p l e R s m args below meth c Z n0 pc L (.int x :: S) h := fun H locs ls i1 i2 i3 i4 i5 => by
  obtain ⟨x1, x2, -, -, x5, x6, -, x8, hK, -, -, xB, -, -, xc, xs⟩ := C
  subst hty
  have hsl : sl (h.1 + 1) = sl h.1 + n := by
    show sl h.1 + szT (tg h.1) = _
    rw [ht]
    rcases htt with ⟨rfl, -⟩ | ⟨rfl, -⟩ | ⟨rfl, -⟩ <;> rfl
  obtain ⟨g1, g2⟩ := vin_of (n := n + 1) hx (Nat.lt_succ_self n)
  refine va_newaK x1 x2 (x6 _ hw) rfl hd rfl (fun q => g1 (Or.inl q)) g2 hb (new_b i4 hF xc) (new_s i4 hF hsl xs) i3 fun H1 cA e1 z1 o1 hAr hNm => ?_
  have hcA : cA = G.2.2.1 j := arr_cls hNm (hK.2 j _ hj).2
  subst hcA
  rw [← i3] at o1
  have q1 : va_P G.2.1 vwCl (oWs G (hAl h)) H1 := by
    have e0 : hI (hAl h) h.1 = fun _ => (0 : Int32) := funext fun k => hAl_I h k
    rcases htt with ⟨rfl, rfl⟩ | ⟨rfl, rfl⟩ | ⟨rfl, rfl⟩
    · refine oP_push (oWs_old i2 o1) (oE_i (h := hAl h) ht).symm ?_
      show H1[G.1 + h.1]? = some (vp_cell _ _)
      rw [e1, e0, hdf]
      rfl
    · refine oP_push (oWs_old i2 o1) (oE_b (h := hAl h) ht).symm ?_
      show H1[G.1 + h.1]? = some (vp_cell _ _)
      rw [e1, e0, hdf]
      rfl
    · refine oP_push (oWs_old i2 o1) (oE_z (h := hAl h) ht).symm ?_
      show H1[G.1 + h.1]? = some (vp_cell _ _)
      rw [e1, e0, hdf]
      rfl
  have k1 := kk H1 locs ls (oS_grow i1 (by rw [z1, i3]; omega) o1) q1 (by rw [z1]; rfl) (Nat.le_trans i4 (Nat.le_succ _)) i5
  rw [new_c i4, new_e i4 hsl]
  exact k1
theorem r_anewarr (C : oC G M n0 nF p l R s m args meth c) {idx n : Nat} {x : Int32} (hd : decode M.2.1 pc = .ok (.anewarray idx, 3)) (hw : Cond.classLink M.1.cls idx "OilRound$House" ∈ oWL) (hx : x.toInt = n) (hb : n * 4 ≤ 536870912) (ht : tg h.1 = (4, n)) (hF : h.1 + 1 ≤ nF) (kk : oS G M p l e R s m args below meth c Z n0 (pc + 3) L (.ref h.1 :: S) (hAl h)) : oS G M p l e R s m args below meth c Z n0 pc L (.int x :: S) h := fun H locs ls i1 i2 i3 i4 i5 => by
  obtain ⟨x1, x2, -, -, x5, x6, -, x8, hK, -, hXR, xB, -, -, xc, xs⟩ := C
  have hsl : sl (h.1 + 1) = sl h.1 + n := by
    show sl h.1 + szT (tg h.1) = _
    rw [ht]
    rfl
  obtain ⟨g1, g2⟩ := vin_of (n := n + 1) hx (Nat.lt_succ_self n)
  refine W.anew x1 x2 x5 (x6 _ hw) (va_AO.use hXR.2.2.2.2.1) rfl hd rfl (fun q => g1 (Or.inl q)) (by rw [g2]; exact hb) (new_b i4 hF xc) (by rw [g2]; exact new_s i4 hF hsl xs) fun cA kA comp f1 f2 f3 f4 => ?_
  have hcA : cA = G.2.2.1 3 := arr_cls f1 (hK.2 3 _ rfl).2
  subst hcA
  rw [g2]
  generalize hH1 : H.push ({ cls := G.2.2.1 3, slots := Array.replicate n .null, vm := .none } : Cell) = H1
  have z1 : H1.size = H.size + 1 := by rw [← hH1, Array.size_push]
  have e1 : H1[H.size]? = some (arrV (G.2.2.1 3) n (fun _ => .null)) := by rw [← hH1, Array.getElem?_push_size, ← arrV_new]
  have o1 : ∀ q : Nat, q < H.size → H1[q]? = H[q]? := fun q hq => by rw [← hH1, Array.getElem?_push, if_neg (Nat.ne_of_lt hq)]
  have q1 : va_P G.2.1 vwCl (oWs G (hAl h)) H1 := by
    have e0 : (fun j => (hR (hAl h) h.1 j).map (fun i => G.1 + i)) = fun _ => (none : Option Nat) := funext fun k => by rw [hAl_R]; rfl
    refine oP_push (oWs_old i2 o1) (oE_q (h := hAl h) ht).symm ?_
    show H1[G.1 + h.1]? = some (vp_cell _ _)
    rw [← i3, e1, e0]
    rfl
  have k1 := kk H1 locs ls (oS_grow i1 (by rw [z1]; omega) o1) q1 (by rw [z1, i3]; rfl) (Nat.le_trans i4 (Nat.le_succ _)) i5
  rw [new_c i4, new_e i4 hsl, i3]
  exact k1
theorem r_objInit (C : oC G M n0 nF p l R s m args meth c) {idx a : Nat} (hd : decode M.2.1 pc = .ok (.invokespecial idx, 3)) (hw : Cond.methodLink M.1.cls idx Lib.objectInit ∈ oWL) (hw2 : Cond.instanceMethod Lib.objectInit ∈ oWL) (hw3 : Cond.code Lib.objectInit ⟨#[0xb1]⟩ 1 none ∈ oWL) (hf : 1 ≤ M.2.2.2.2.1) (hl : (S.map fun v => v.category).sum + 12 ≤ M.2.2.2.2.2) (kk : oS G M p l e R s m args below meth c Z n0 (pc + 3) L S h) : oS G M p l e R s m args below meth c Z n0 pc L (.ref a :: S) h := fun H locs ls i1 i2 i3 i4 i5 => by
  have k1 := kk H locs ls i1 i2 i3 i4 i5
  obtain ⟨x1, x2, x3, x4, x5, x6, -, x8, hK, -, hXR, xB, xf, xl, xc, xs⟩ := C
  have hcat : ((S.map (oV G)).map fun v => v.category) = S.map fun v => v.category := by
    rw [List.map_map]
    exact List.map_congr_left fun v _ => oV_cat2 G v
  exact W.objInit x1 x2 x5 (x6 _ hw) (x6 _ hw2) (x6 _ hw3) rfl (by rw [x4]; exact i5.1) rfl hd (Nat.le_trans hf xf) (by show 2 * 0 + _ + 12 ≤ _; rw [hcat]; omega) (W.eq (g2 := F0 m (pc + 3) ls (S.map (oV G))) rfl k1)
/-! calls -/
theorem o_back {A1 : Heap → Prop} {mc ms : Nat} {r : Option Value} {h' : oH} {a : Array Value} {H : Heap} {locs : List Loc} {cells slots : Nat} {ls : Array Slot} {st0 rest : List Value} (hr : va_Run p l e R s m args below meth c H locs cells slots mc ms (F0 m pc ls st0) rest (oQ G r h' a) (fun q => G.1 ≤ q)) (hS : va_S (fun q => G.1 ≤ q) s.heap H locs)
    (kk : ∀ (H1 : Heap) (locs1 : List Loc), va_S (fun q => G.1 ≤ q) s.heap H1 locs1 → va_P G.2.1 vwCl (oWs G h') H1 → H1.size = G.1 + h'.1 → W p l e R s m args below meth c H1 locs1 (cells + mc) (slots + ms) Z (F0 m (pc + 3) ls ((r.map (oV G)).toList ++ rest))) : W p l e R s m args below meth c H locs cells slots Z (F0 m pc ls st0) := by
  intro T hT X
  obtain ⟨v, st₀, t, T', L, h0, X', hL, e1, e2, ⟨⟨hv, hrep⟩, hz, hk⟩, st⟩ := hr T hT X
  cases hv
  rw [h0] at hz hk
  obtain ⟨t2, a1, b1⟩ := kk T'.heap (locs ++ L)
    ⟨Nat.le_trans hS.1 (by rw [e1]; exact hz), fun q h1 h2 => by rw [e1, hk q (Nat.lt_of_lt_of_le h1 hS.1) h2]; exact hS.2.1 q h1 h2, fun q hq => by
      rcases List.mem_append.mp hq with h | h
      · exact hS.2.2 q h
      · exact hL q h⟩ (by rw [e1]; exact hrep.1) (by rw [e1]; exact hrep.2.1) T' rfl X'
  exact ⟨t2, st t2 a1, b1⟩
theorem call_n {n0 n n' : Nat} (h0 : n0 ≤ n) (h1 : n ≤ n') : n - n0 + (n' - n) = n' - n0 := by omega
theorem call_b {n0 n n' nF cells : Nat} (h0 : n0 ≤ n) (h1 : n ≤ n') (h2 : n' ≤ nF) (hc : nF - n0 ≤ cells) : n - n0 + (n' - n) ≤ cells := by omega
theorem cat_eq (G : oG) (S : List Value) : ((S.map (oV G)).map fun v => v.category) = S.map fun v => v.category := by
  rw [List.map_map]
  exact List.map_congr_left fun v _ => oV_cat2 G v
theorem rt_map (G : oG) (r : Option Value) (S : List Value) : (r.map (oV G)).toList ++ S.map (oV G) = (r.toList ++ S).map (oV G) := by cases r <;> rfl
theorem oPre (as : List Value) (h : oH) : FrameBlind (fun v U => v = (as.map (oV G)).toArray ∧ oRep G h U) := fun _ _ g mk q => ⟨q.1, q.2.calling g mk _⟩
theorem oFitR {M N : oM} {R : Room} (hf : oFit M N) (h1 : M.2.2.2.2.1 ≤ R.frames) (h2 : M.2.2.2.2.2 ≤ R.locals) {mc ms : Nat} : (oR N mc ms).frames + 1 ≤ R.frames ∧ 8 + (N.2.2.1 + 11) + (oR N mc ms).locals ≤ R.locals := ⟨Nat.le_trans hf.1 h1, Nat.le_trans hf.2 h2⟩
theorem oW_gin {N : oM} (h : oMc N) : GoodIn oWL (oW N) := wsL_gin (fun w hw => by
  rcases List.mem_cons.mp hw with rfl | hw
  · exact h.1
  · exact hw)
theorem r_callV (C : oC G M n0 nF p l R s m args meth c) {N : oM} {as' : List Value} {b n ci idx : Nat} {r : Option Value} {h' : oH} {S0 : List Value} (sp : oSp G N (.ref b :: as') h r h') (hN : oMv N) (hn : oN N n) (hl : as'.length = n) (hd : decode M.2.1 pc = .ok (.invokevirtual idx, 3)) (hw : Cond.methodLink M.1.cls idx N.1 ∈ oWL) (hft : oFit M N) (hc7 : ci < 7) (hcl : (clQ ci).1 = N.1.cls) (ht : tg b = (0, ci)) (hb : b < h.1) (hF : h'.1 ≤ nF) (hst : S0 = as'.reverse ++ .ref b :: S) (hcat : (S.map fun v => v.category).sum ≤ 8) (kk : oS G M p l e R s m args below meth c Z n0 (pc + 3) L (r.toList ++ S) h') : oS G M p l e R s m args below meth c Z n0 pc L S0 h := fun H locs ls i1 i2 i3 i4 i5 => by
  obtain ⟨hle, hM⟩ := sp
  have hrep := C.rep i1 i2 i3
  obtain ⟨x1, x2, x3, x4, x5, x6, -, x8, hK, -, hXR, xB, xf, xl, xc, xs⟩ := C
  have hsl := sl_mono hle
  have hsl0 := sl_mono i4
  have hslF := sl_mono hF
  refine o_back (mc := h'.1 - h.1) (ms := sl h'.1 - sl h.1) (rest := S.map (oV G)) (A1 := fun _ => True) (va_runV (As := as'.map (oV G)) ⟨x1, x2, x4, x5, x6⟩ (hM l) ⟨callB_of n x6 (oW_gin hN.1.1) rfl rfl rfl (x6 _ hN.1.1.2.1) (x6 _ hw) ⟨hN.1.1.2.2.1, hN.1.1.2.2.2, hn⟩ (oFitR hft xf xl), x6 _ hN.1.2, x6 _ hN.2⟩ ⟨oPre (.ref b :: as') h, ?_, fun U hU hW => ⟨rfl, hrep U hU hW⟩⟩ rfl (by rw [List.length_map]; exact hl) i5.1 (by rw [hst, List.map_append, List.map_reverse]; rfl) (lv_room (by rw [cat_eq]; exact hcat)) hd ⟨call_b i4 hle hF xc, call_b hsl0 hsl hslF xs⟩) i1 ?_
  · have hr := va_recv (va_K.sub (tys' := []) hK [] rfl) i2 (clQ_ok hc7) ((oWs_get hb).trans (congrArg (fun z => some (G.1 + b, z)) (oE_obj ht)))
    rw [hcl] at hr
    exact hr
  · intro H1 locs1 q1 q2 q3
    have k1 := kk H1 locs1 ls q1 q2 q3 (Nat.le_trans i4 hle) i5
    rw [call_n i4 hle, call_n hsl0 hsl, rt_map]
    exact k1
theorem r_callS (C : oC G M n0 nF p l R s m args meth c) {N : oM} {as' : List Value} {n idx : Nat} {r : Option Value} {h' : oH} {S0 : List Value} (sp : oSp G N as' h r h') (hN : oMs N) (hn : oN N n) (hl : as'.length = n) (hd : decode M.2.1 pc = .ok (.invokestatic idx, 3)) (hw : Cond.methodLink M.1.cls idx N.1 ∈ oWL) (hft : oFit M N) (hF : h'.1 ≤ nF) (hst : S0 = as'.reverse ++ S) (hcat : (S.map fun v => v.category).sum ≤ 8) (kk : oS G M p l e R s m args below meth c Z n0 (pc + 3) L (r.toList ++ S) h') : oS G M p l e R s m args below meth c Z n0 pc L S0 h := fun H locs ls i1 i2 i3 i4 i5 => by
  obtain ⟨hle, hM⟩ := sp
  have hrep := C.rep i1 i2 i3
  obtain ⟨x1, x2, x3, x4, x5, x6, -, x8, hK, -, hXR, xB, xf, xl, xc, xs⟩ := C
  have hsl := sl_mono hle
  have hsl0 := sl_mono i4
  have hslF := sl_mono hF
  refine o_back (mc := h'.1 - h.1) (ms := sl h'.1 - sl h.1) (rest := S.map (oV G)) (A1 := fun _ => True) (va_runS (As := as'.map (oV G)) ⟨x1, x2, x4, x5, x6⟩ (hM l) ⟨callB_of n x6 (oW_gin hN.1) rfl rfl rfl (x6 _ hN.1.2.1) (x6 _ hw) ⟨hN.1.2.2.1, hN.1.2.2.2, hn⟩ (oFitR hft xf xl), x6 _ hN.2⟩ ⟨oPre as' h, fun U hU hW => ⟨rfl, hrep U hU hW⟩⟩ rfl (by rw [List.length_map]; exact hl) i5.1 (by rw [hst, List.map_append, List.map_reverse]) (lv_room (by rw [cat_eq]; exact hcat)) hd ⟨call_b i4 hle hF xc, call_b hsl0 hsl hslF xs⟩) i1 ?_
  intro H1 locs1 q1 q2 q3
  have k1 := kk H1 locs1 ls q1 q2 q3 (Nat.le_trans i4 hle) i5
  rw [call_n i4 hle, call_n hsl0 hsl, rt_map]
  exact k1
theorem r_callSN (C : oC G M n0 nF p l R s m args meth c) {N : oM} {as' : List Value} {n idx : Nat} {r : Option Value} {h' : oH} {S0 : List Value} (sp : oSp G N as' h r h') (hN : oMs N) (hn : oN N n) (hl : as'.length = n) (hd : decode M.2.1 pc = .ok (.invokestatic idx, 3)) (hw : (M.1.cls, idx, N.1) ∈ oNestL) (hft : oFit M N) (hF : h'.1 ≤ nF) (hst : S0 = as'.reverse ++ S) (hcat : (S.map fun v => v.category).sum ≤ 8) (kk : oS G M p l e R s m args below meth c Z n0 (pc + 3) L (r.toList ++ S) h') : oS G M p l e R s m args below meth c Z n0 pc L S0 h := fun H locs ls i1 i2 i3 i4 i5 => by
  obtain ⟨hle, hM⟩ := sp
  have hrep := C.rep i1 i2 i3
  obtain ⟨x1, x2, x3, x4, x5, x6, -, x8, hK, -, hXR, xB, xf, xl, xc, xs⟩ := C
  have hsl := sl_mono hle
  have hsl0 := sl_mono i4
  have hslF := sl_mono hF
  refine o_back (mc := h'.1 - h.1) (ms := sl h'.1 - sl h.1) (rest := S.map (oV G)) (A1 := fun _ => True) (va_runSN (As := as'.map (oV G)) ⟨x1, x2, x4, x5, x6⟩ (hM l) ⟨va_cnB n x6 (oW_gin hN.1) rfl rfl rfl (hXR.2.2.2.2.2 _ hw) (x6 _ hN.1.2.1) ⟨hN.1.2.2.1, hN.1.2.2.2, hn⟩ (oFitR hft xf xl), x6 _ hN.2, trivial⟩ ⟨oPre as' h, fun U hU hW => ⟨rfl, hrep U hU hW⟩⟩ rfl (by rw [List.length_map]; exact hl) i5.1 (by rw [hst, List.map_append, List.map_reverse]) (lv_room (by rw [cat_eq]; exact hcat)) hd ⟨call_b i4 hle hF xc, call_b hsl0 hsl hslF xs⟩) i1 ?_
  intro H1 locs1 q1 q2 q3
  have k1 := kk H1 locs1 ls q1 q2 q3 (Nat.le_trans i4 hle) i5
  rw [call_n i4 hle, call_n hsl0 hsl, rt_map]
  exact k1
theorem r_callI (C : oC G M n0 nF p l R s m args meth c) {N : oM} {as' : List Value} {b n idx : Nat} {h' : oH} {S0 : List Value} (sp : oSp G N (.ref b :: as') h none h') (hN : oMi N) (hi : N.1.name = "<init>") (hr0 : N.2.2.2.1 = none) (hn : oN N n) (hl : as'.length = n) (hd : decode M.2.1 pc = .ok (.invokespecial idx, 3)) (hw : Cond.methodLink M.1.cls idx N.1 ∈ oWL) (hft : oFit M N) (hF : h'.1 ≤ nF) (hst : S0 = as'.reverse ++ .ref b :: S) (hcat : (S.map fun v => v.category).sum ≤ 8) (kk : oS G M p l e R s m args below meth c Z n0 (pc + 3) L S h') : oS G M p l e R s m args below meth c Z n0 pc L S0 h := fun H locs ls i1 i2 i3 i4 i5 => by
  obtain ⟨hle, hM⟩ := sp
  have hrep := C.rep i1 i2 i3
  obtain ⟨x1, x2, x3, x4, x5, x6, -, x8, hK, -, hXR, xB, xf, xl, xc, xs⟩ := C
  have hsl := sl_mono hle
  have hsl0 := sl_mono i4
  have hslF := sl_mono hF
  have cb := callB_of (Ts := oWL) (ws := oW N) (rm := oR N (h'.1 - h.1) (sl h'.1 - sl h.1)) n x6 (oW_gin hN.1) rfl rfl rfl (x6 _ hN.1.2.1) (x6 _ hw) ⟨hN.1.2.2.1, hN.1.2.2.2, hn⟩ (oFitR hft xf xl)
  rw [hr0] at cb
  refine o_back (mc := h'.1 - h.1) (ms := sl h'.1 - sl h.1) (rest := S.map (oV G)) (A1 := fun _ => True) (va_runI (As := as'.map (oV G)) ⟨x1, x2, x4, x5, x6⟩ (hM l) ⟨cb, hi, x6 _ hN.2⟩ ⟨oPre (.ref b :: as') h, fun U hU hW => ⟨rfl, hrep U hU hW⟩⟩ rfl (by rw [List.length_map]; exact hl) i5.1 (by rw [hst, List.map_append, List.map_reverse]; rfl) (lv_room (by rw [cat_eq]; exact hcat)) hd ⟨call_b i4 hle hF xc, call_b hsl0 hsl hslF xs⟩) i1 ?_
  intro H1 locs1 q1 q2 q3
  have k1 := kk H1 locs1 ls q1 q2 q3 (Nat.le_trans i4 hle) i5
  rw [call_n i4 hle, call_n hsl0 hsl]
  exact k1
theorem r_callIN (C : oC G M n0 nF p l R s m args meth c) {N : oM} {as' : List Value} {b n idx : Nat} {h' : oH} {S0 : List Value} (sp : oSp G N (.ref b :: as') h none h') (hN : oMi N) (hi : N.1.name = "<init>") (hr0 : N.2.2.2.1 = none) (hn : oN N n) (hl : as'.length = n) (hd : decode M.2.1 pc = .ok (.invokespecial idx, 3)) (hw : (M.1.cls, idx, N.1) ∈ oNestL) (hft : oFit M N) (hF : h'.1 ≤ nF) (hst : S0 = as'.reverse ++ .ref b :: S) (hcat : (S.map fun v => v.category).sum ≤ 8) (kk : oS G M p l e R s m args below meth c Z n0 (pc + 3) L S h') : oS G M p l e R s m args below meth c Z n0 pc L S0 h := fun H locs ls i1 i2 i3 i4 i5 => by
  obtain ⟨hle, hM⟩ := sp
  have hrep := C.rep i1 i2 i3
  obtain ⟨x1, x2, x3, x4, x5, x6, -, x8, hK, -, hXR, xB, xf, xl, xc, xs⟩ := C
  have hsl := sl_mono hle
  have hsl0 := sl_mono i4
  have hslF := sl_mono hF
  have cb := va_cnB (R := R) (s := s) (args := args) (Ts := oWL) (ws := oW N) (rm := oR N (h'.1 - h.1) (sl h'.1 - sl h.1)) n x6 (oW_gin hN.1) rfl rfl rfl (hXR.2.2.2.2.2 _ hw) (x6 _ hN.1.2.1) ⟨hN.1.2.2.1, hN.1.2.2.2, hn⟩ (oFitR hft xf xl)
  rw [hr0] at cb
  refine o_back (mc := h'.1 - h.1) (ms := sl h'.1 - sl h.1) (rest := S.map (oV G)) (A1 := fun _ => True) (va_runIN (As := as'.map (oV G)) ⟨x1, x2, x4, x5, x6⟩ (hM l) ⟨cb, hi, x6 _ hN.2⟩ ⟨oPre (.ref b :: as') h, fun U hU hW => ⟨rfl, hrep U hU hW⟩⟩ rfl (by rw [List.length_map]; exact hl) i5.1 (by rw [hst, List.map_append, List.map_reverse]; rfl) (lv_room (by rw [cat_eq]; exact hcat)) hd ⟨call_b i4 hle hF xc, call_b hsl0 hsl hslF xs⟩) i1 ?_
  intro H1 locs1 q1 q2 q3
  have k1 := kk H1 locs1 ls q1 q2 q3 (Nat.le_trans i4 hle) i5
  rw [call_n i4 hle, call_n hsl0 hsl]
  exact k1
/-! ends -/
theorem r_iret (C : oC G M n0 nF p l R s m args meth c) {v : Int32} {r : Option Value} {h' : oH} (hd : decode M.2.1 pc = .ok (.ireturn, 1)) (hr : M.2.2.2.1 = some .int) (hF : h.1 ≤ nF) (er : r = some (.int v)) (eh : h' = h) : oS G M p l e R s m args below meth c (oZ G below args s n0 nF r h') n0 pc L [.int v] h := fun H locs ls i1 i2 i3 i4 i5 => by
  subst er; subst eh
  have hrep := C.rep i1 i2 i3
  obtain ⟨x1, x2, x3, -, -, -, x7, -⟩ := C
  have hslF := sl_mono hF
  exact W.widen (k := nF - n0) (n := sl nF - sl n0) (by omega) (by omega) (W.iret (v := v) x1 x2 (x3.trans hr) (fun t ht hW => ⟨⟨rfl, hrep t ht hW⟩, i1.F ht⟩) i1.2.2 hd x7)
theorem r_zret (C : oC G M n0 nF p l R s m args meth c) {v : Int32} {ty : FieldType} {r : Option Value} {h' : oH} (hd : decode M.2.1 pc = .ok (.ireturn, 1)) (hr : M.2.2.2.1 = some ty) (hn : narrow ty (.int v) = .int v) (hF : h.1 ≤ nF) (er : r = some (.int v)) (eh : h' = h) : oS G M p l e R s m args below meth c (oZ G below args s n0 nF r h') n0 pc L [.int v] h := fun H locs ls i1 i2 i3 i4 i5 => by
  subst er; subst eh
  have hrep := C.rep i1 i2 i3
  obtain ⟨x1, x2, x3, -, -, -, x7, -⟩ := C
  have hslF := sl_mono hF
  exact W.widen (k := nF - n0) (n := sl nF - sl n0) (by omega) (by omega) (W.zret (v := v) x1 x2 (x3.trans hr) hn (fun t ht hW => ⟨⟨rfl, hrep t ht hW⟩, i1.F ht⟩) i1.2.2 hd x7)
theorem r_lret (C : oC G M n0 nF p l R s m args meth c) {v : Int64} {r : Option Value} {h' : oH} (hd : decode M.2.1 pc = .ok (.lreturn, 1)) (hr : M.2.2.2.1 = some .long) (hF : h.1 ≤ nF) (er : r = some (.long v)) (eh : h' = h) : oS G M p l e R s m args below meth c (oZ G below args s n0 nF r h') n0 pc L [.long v] h := fun H locs ls i1 i2 i3 i4 i5 => by
  subst er; subst eh
  have hrep := C.rep i1 i2 i3
  obtain ⟨x1, x2, x3, -, -, -, x7, -⟩ := C
  have hslF := sl_mono hF
  exact W.widen (k := nF - n0) (n := sl nF - sl n0) (by omega) (by omega) (W.lret (v := v) x1 x2 (x3.trans hr) (fun t ht hW => ⟨⟨rfl, hrep t ht hW⟩, i1.F ht⟩) i1.2.2 hd x7)
theorem r_vret (C : oC G M n0 nF p l R s m args meth c) {h' : oH} (hd : decode M.2.1 pc = .ok (.return_, 1)) (hr : M.2.2.2.1 = none) (hF : h.1 ≤ nF) (eh : h' = h) : oS G M p l e R s m args below meth c (oZ G below args s n0 nF none h') n0 pc L [] h := fun H locs ls i1 i2 i3 i4 i5 => by
  subst eh
  have hrep := C.rep i1 i2 i3
  obtain ⟨x1, x2, x3, -, -, -, x7, -⟩ := C
  have hslF := sl_mono hF
  exact W.widen (k := nF - n0) (n := sl nF - sl n0) (by omega) (by omega) (W.vret x1 x2 (x3.trans hr) (fun t ht hW => ⟨⟨rfl, hrep t ht hW⟩, i1.F ht⟩) i1.2.2 hd x7)
theorem r_aret (C : oC G M n0 nF p l R s m args meth c) {v : Option Nat} {N : String} {r : Option Value} {h' : oH} (hd : decode M.2.1 pc = .ok (.areturn, 1)) (hr : M.2.2.2.1 = some (.object N)) (hF : h.1 ≤ nF) (er : r = some (va_rf v)) (eh : h' = h) : oS G M p l e R s m args below meth c (oZ G below args s n0 nF r h') n0 pc L [va_rf v] h := fun H locs ls i1 i2 i3 i4 i5 => by
  subst er; subst eh
  have hrep := C.rep i1 i2 i3
  obtain ⟨x1, x2, x3, -, -, -, x7, -⟩ := C
  have hslF := sl_mono hF
  refine W.widen (k := nF - n0) (n := sl nF - sl n0) (by omega) (by omega) (W.aret (v := oV G (va_rf v)) x1 x2 (x3.trans hr) (Or.inl ⟨_, rfl⟩) ?_ (fun t ht hW => ⟨⟨rfl, hrep t ht hW⟩, i1.F ht⟩) i1.2.2 hd x7)
  cases v with
  | none => exact Or.inl rfl
  | some a => exact Or.inr ⟨_, rfl⟩
end OHEAP
end
section
theorem dX0_init_0 : decode cX0_init 0 = .ok (.aload_n 0, 1) := by decide +kernel
theorem dX0_init_1 : decode cX0_init 1 = .ok (.invokespecial 3, 3) := by decide +kernel
theorem dX0_init_4 : decode cX0_init 4 = .ok (.aload_n 0, 1) := by decide +kernel
theorem dX0_init_5 : decode cX0_init 5 = .ok (.bipush 16, 2) := by decide +kernel
theorem dX0_init_7 : decode cX0_init 7 = .ok (.newarray .int, 2) := by decide +kernel
theorem dX0_init_9 : decode cX0_init 9 = .ok (.putfield 9, 3) := by decide +kernel
theorem dX0_init_12 : decode cX0_init 12 = .ok (.aload_n 0, 1) := by decide +kernel
theorem dX0_init_13 : decode cX0_init 13 = .ok (.iconst 0, 1) := by decide +kernel
theorem dX0_init_14 : decode cX0_init 14 = .ok (.putfield 15, 3) := by decide +kernel
theorem dX0_init_17 : decode cX0_init 17 = .ok (.return_, 1) := by decide +kernel
theorem dX0_emptyTrace_0 : decode cX0_emptyTrace 0 = .ok (.aload_n 0, 1) := by decide +kernel
theorem dX0_emptyTrace_1 : decode cX0_emptyTrace 1 = .ok (.iconst 0, 1) := by decide +kernel
theorem dX0_emptyTrace_2 : decode cX0_emptyTrace 2 = .ok (.putfield 15, 3) := by decide +kernel
theorem dX0_emptyTrace_5 : decode cX0_emptyTrace 5 = .ok (.return_, 1) := by decide +kernel
theorem dX0_traced_0 : decode cX0_traced 0 = .ok (.iload_n 1, 1) := by decide +kernel
theorem dX0_traced_1 : decode cX0_traced 1 = .ok (.ifCond .lt 20, 3) := by decide +kernel
theorem dX0_traced_4 : decode cX0_traced 4 = .ok (.iload_n 1, 1) := by decide +kernel
theorem dX0_traced_5 : decode cX0_traced 5 = .ok (.aload_n 0, 1) := by decide +kernel
theorem dX0_traced_6 : decode cX0_traced 6 = .ok (.getfield 15, 3) := by decide +kernel
theorem dX0_traced_9 : decode cX0_traced 9 = .ok (.if_icmp .ge 12, 3) := by decide +kernel
theorem dX0_traced_12 : decode cX0_traced 12 = .ok (.iload_n 1, 1) := by decide +kernel
theorem dX0_traced_13 : decode cX0_traced 13 = .ok (.aload_n 0, 1) := by decide +kernel
theorem dX0_traced_14 : decode cX0_traced 14 = .ok (.getfield 9, 3) := by decide +kernel
theorem dX0_traced_17 : decode cX0_traced 17 = .ok (.arraylength, 1) := by decide +kernel
theorem dX0_traced_18 : decode cX0_traced 18 = .ok (.if_icmp .lt 8, 3) := by decide +kernel
theorem dX0_traced_21 : decode cX0_traced 21 = .ok (.ldc 19, 2) := by decide +kernel
theorem dX0_traced_23 : decode cX0_traced 23 = .ok (.goto 9, 3) := by decide +kernel
theorem dX0_traced_26 : decode cX0_traced 26 = .ok (.aload_n 0, 1) := by decide +kernel
theorem dX0_traced_27 : decode cX0_traced 27 = .ok (.getfield 9, 3) := by decide +kernel
theorem dX0_traced_30 : decode cX0_traced 30 = .ok (.iload_n 1, 1) := by decide +kernel
theorem dX0_traced_31 : decode cX0_traced 31 = .ok (.iaload, 1) := by decide +kernel
theorem dX0_traced_32 : decode cX0_traced 32 = .ok (.ireturn, 1) := by decide +kernel
theorem dX0_weight_0 : decode cX0_weight 0 = .ok (.aload_n 1, 1) := by decide +kernel
theorem dX0_weight_1 : decode cX0_weight 1 = .ok (.invokevirtual 20, 3) := by decide +kernel
theorem dX0_weight_4 : decode cX0_weight 4 = .ok (.tableswitch 46 1 3 #[40, 34, 28], 28) := by decide +kernel
theorem dX0_weight_32 : decode cX0_weight 32 = .ok (.aload_n 0, 1) := by decide +kernel
theorem dX0_weight_33 : decode cX0_weight 33 = .ok (.aload_n 1, 1) := by decide +kernel
theorem dX0_weight_34 : decode cX0_weight 34 = .ok (.invokevirtual 26, 3) := by decide +kernel
theorem dX0_weight_37 : decode cX0_weight 37 = .ok (.ireturn, 1) := by decide +kernel
theorem dX0_weight_38 : decode cX0_weight 38 = .ok (.aload_n 0, 1) := by decide +kernel
theorem dX0_weight_39 : decode cX0_weight 39 = .ok (.aload_n 1, 1) := by decide +kernel
theorem dX0_weight_40 : decode cX0_weight 40 = .ok (.invokevirtual 30, 3) := by decide +kernel
theorem dX0_weight_43 : decode cX0_weight 43 = .ok (.ireturn, 1) := by decide +kernel
theorem dX0_weight_44 : decode cX0_weight 44 = .ok (.aload_n 0, 1) := by decide +kernel
theorem dX0_weight_45 : decode cX0_weight 45 = .ok (.aload_n 1, 1) := by decide +kernel
theorem dX0_weight_46 : decode cX0_weight 46 = .ok (.invokevirtual 33, 3) := by decide +kernel
theorem dX0_weight_49 : decode cX0_weight 49 = .ok (.ireturn, 1) := by decide +kernel
theorem dX0_weight_50 : decode cX0_weight 50 = .ok (.aload_n 0, 1) := by decide +kernel
theorem dX0_weight_51 : decode cX0_weight 51 = .ok (.aload_n 1, 1) := by decide +kernel
theorem dX0_weight_52 : decode cX0_weight 52 = .ok (.invokevirtual 36, 3) := by decide +kernel
theorem dX0_weight_55 : decode cX0_weight 55 = .ok (.ireturn, 1) := by decide +kernel
theorem dX0_mark_0 : decode cX0_mark 0 = .ok (.aload_n 1, 1) := by decide +kernel
theorem dX0_mark_1 : decode cX0_mark 1 = .ok (.invokevirtual 20, 3) := by decide +kernel
theorem dX0_mark_4 : decode cX0_mark 4 = .ok (.tableswitch 40 1 3 #[34, 34, 28], 28) := by decide +kernel
theorem dX0_mark_32 : decode cX0_mark 32 = .ok (.aload_n 0, 1) := by decide +kernel
theorem dX0_mark_33 : decode cX0_mark 33 = .ok (.aload_n 1, 1) := by decide +kernel
theorem dX0_mark_34 : decode cX0_mark 34 = .ok (.invokevirtual 39, 3) := by decide +kernel
theorem dX0_mark_37 : decode cX0_mark 37 = .ok (.ireturn, 1) := by decide +kernel
theorem dX0_mark_38 : decode cX0_mark 38 = .ok (.aload_n 0, 1) := by decide +kernel
theorem dX0_mark_39 : decode cX0_mark 39 = .ok (.aload_n 1, 1) := by decide +kernel
theorem dX0_mark_40 : decode cX0_mark 40 = .ok (.invokevirtual 42, 3) := by decide +kernel
theorem dX0_mark_43 : decode cX0_mark 43 = .ok (.ireturn, 1) := by decide +kernel
theorem dX0_mark_44 : decode cX0_mark 44 = .ok (.aload_n 0, 1) := by decide +kernel
theorem dX0_mark_45 : decode cX0_mark 45 = .ok (.aload_n 1, 1) := by decide +kernel
theorem dX0_mark_46 : decode cX0_mark 46 = .ok (.invokevirtual 45, 3) := by decide +kernel
theorem dX0_mark_49 : decode cX0_mark 49 = .ok (.ireturn, 1) := by decide +kernel
theorem dX0_lentWeight_0 : decode cX0_lentWeight 0 = .ok (.aload_n 0, 1) := by decide +kernel
theorem dX0_lentWeight_1 : decode cX0_lentWeight 1 = .ok (.bipush 10, 2) := by decide +kernel
theorem dX0_lentWeight_3 : decode cX0_lentWeight 3 = .ok (.invokevirtual 48, 3) := by decide +kernel
theorem dX0_lentWeight_6 : decode cX0_lentWeight 6 = .ok (.aload_n 1, 1) := by decide +kernel
theorem dX0_lentWeight_7 : decode cX0_lentWeight 7 = .ok (.getfield 52, 3) := by decide +kernel
theorem dX0_lentWeight_10 : decode cX0_lentWeight 10 = .ok (.aload_n 1, 1) := by decide +kernel
theorem dX0_lentWeight_11 : decode cX0_lentWeight 11 = .ok (.getfield 55, 3) := by decide +kernel
theorem dX0_lentWeight_14 : decode cX0_lentWeight 14 = .ok (.isub, 1) := by decide +kernel
theorem dX0_lentWeight_15 : decode cX0_lentWeight 15 = .ok (.ireturn, 1) := by decide +kernel
theorem dX0_knownWeight_0 : decode cX0_knownWeight 0 = .ok (.aload_n 0, 1) := by decide +kernel
theorem dX0_knownWeight_1 : decode cX0_knownWeight 1 = .ok (.bipush 11, 2) := by decide +kernel
theorem dX0_knownWeight_3 : decode cX0_knownWeight 3 = .ok (.invokevirtual 48, 3) := by decide +kernel
theorem dX0_knownWeight_6 : decode cX0_knownWeight 6 = .ok (.aload_n 0, 1) := by decide +kernel
theorem dX0_knownWeight_7 : decode cX0_knownWeight 7 = .ok (.aload_n 1, 1) := by decide +kernel
theorem dX0_knownWeight_8 : decode cX0_knownWeight 8 = .ok (.invokevirtual 36, 3) := by decide +kernel
theorem dX0_knownWeight_11 : decode cX0_knownWeight 11 = .ok (.aload_n 1, 1) := by decide +kernel
theorem dX0_knownWeight_12 : decode cX0_knownWeight 12 = .ok (.getfield 58, 3) := by decide +kernel
theorem dX0_knownWeight_15 : decode cX0_knownWeight 15 = .ok (.iadd, 1) := by decide +kernel
theorem dX0_knownWeight_16 : decode cX0_knownWeight 16 = .ok (.ireturn, 1) := by decide +kernel
theorem dX0_steadyWeight_0 : decode cX0_steadyWeight 0 = .ok (.aload_n 0, 1) := by decide +kernel
theorem dX0_steadyWeight_1 : decode cX0_steadyWeight 1 = .ok (.bipush 12, 2) := by decide +kernel
theorem dX0_steadyWeight_3 : decode cX0_steadyWeight 3 = .ok (.invokevirtual 48, 3) := by decide +kernel
theorem dX0_steadyWeight_6 : decode cX0_steadyWeight 6 = .ok (.aload_n 0, 1) := by decide +kernel
theorem dX0_steadyWeight_7 : decode cX0_steadyWeight 7 = .ok (.aload_n 1, 1) := by decide +kernel
theorem dX0_steadyWeight_8 : decode cX0_steadyWeight 8 = .ok (.invokevirtual 33, 3) := by decide +kernel
theorem dX0_steadyWeight_11 : decode cX0_steadyWeight 11 = .ok (.aload_n 1, 1) := by decide +kernel
theorem dX0_steadyWeight_12 : decode cX0_steadyWeight 12 = .ok (.getfield 61, 3) := by decide +kernel
theorem dX0_steadyWeight_15 : decode cX0_steadyWeight 15 = .ok (.iadd, 1) := by decide +kernel
theorem dX0_steadyWeight_16 : decode cX0_steadyWeight 16 = .ok (.ireturn, 1) := by decide +kernel
theorem dX0_leakyWeight_0 : decode cX0_leakyWeight 0 = .ok (.aload_n 0, 1) := by decide +kernel
theorem dX0_leakyWeight_1 : decode cX0_leakyWeight 1 = .ok (.bipush 13, 2) := by decide +kernel
theorem dX0_leakyWeight_3 : decode cX0_leakyWeight 3 = .ok (.invokevirtual 48, 3) := by decide +kernel
theorem dX0_leakyWeight_6 : decode cX0_leakyWeight 6 = .ok (.aload_n 0, 1) := by decide +kernel
theorem dX0_leakyWeight_7 : decode cX0_leakyWeight 7 = .ok (.aload_n 1, 1) := by decide +kernel
theorem dX0_leakyWeight_8 : decode cX0_leakyWeight 8 = .ok (.invokevirtual 36, 3) := by decide +kernel
theorem dX0_leakyWeight_11 : decode cX0_leakyWeight 11 = .ok (.sipush 5000, 3) := by decide +kernel
theorem dX0_leakyWeight_14 : decode cX0_leakyWeight 14 = .ok (.iadd, 1) := by decide +kernel
theorem dX0_leakyWeight_15 : decode cX0_leakyWeight 15 = .ok (.ireturn, 1) := by decide +kernel
theorem dX0_lentMark_0 : decode cX0_lentMark 0 = .ok (.aload_n 0, 1) := by decide +kernel
theorem dX0_lentMark_1 : decode cX0_lentMark 1 = .ok (.bipush 20, 2) := by decide +kernel
theorem dX0_lentMark_3 : decode cX0_lentMark 3 = .ok (.invokevirtual 48, 3) := by decide +kernel
theorem dX0_lentMark_6 : decode cX0_lentMark 6 = .ok (.aload_n 1, 1) := by decide +kernel
theorem dX0_lentMark_7 : decode cX0_lentMark 7 = .ok (.getfield 64, 3) := by decide +kernel
theorem dX0_lentMark_10 : decode cX0_lentMark 10 = .ok (.ireturn, 1) := by decide +kernel
theorem dX0_knownMark_0 : decode cX0_knownMark 0 = .ok (.aload_n 0, 1) := by decide +kernel
theorem dX0_knownMark_1 : decode cX0_knownMark 1 = .ok (.bipush 21, 2) := by decide +kernel
theorem dX0_knownMark_3 : decode cX0_knownMark 3 = .ok (.invokevirtual 48, 3) := by decide +kernel
theorem dX0_knownMark_6 : decode cX0_knownMark 6 = .ok (.aload_n 0, 1) := by decide +kernel
theorem dX0_knownMark_7 : decode cX0_knownMark 7 = .ok (.aload_n 1, 1) := by decide +kernel
theorem dX0_knownMark_8 : decode cX0_knownMark 8 = .ok (.invokevirtual 45, 3) := by decide +kernel
theorem dX0_knownMark_11 : decode cX0_knownMark 11 = .ok (.aload_n 0, 1) := by decide +kernel
theorem dX0_knownMark_12 : decode cX0_knownMark 12 = .ok (.aload_n 1, 1) := by decide +kernel
theorem dX0_knownMark_13 : decode cX0_knownMark 13 = .ok (.invokevirtual 67, 3) := by decide +kernel
theorem dX0_knownMark_16 : decode cX0_knownMark 16 = .ok (.iadd, 1) := by decide +kernel
theorem dX0_knownMark_17 : decode cX0_knownMark 17 = .ok (.ireturn, 1) := by decide +kernel
theorem dX0_leakyMark_0 : decode cX0_leakyMark 0 = .ok (.aload_n 0, 1) := by decide +kernel
theorem dX0_leakyMark_1 : decode cX0_leakyMark 1 = .ok (.bipush 22, 2) := by decide +kernel
theorem dX0_leakyMark_3 : decode cX0_leakyMark 3 = .ok (.invokevirtual 48, 3) := by decide +kernel
theorem dX0_leakyMark_6 : decode cX0_leakyMark 6 = .ok (.aload_n 0, 1) := by decide +kernel
theorem dX0_leakyMark_7 : decode cX0_leakyMark 7 = .ok (.aload_n 1, 1) := by decide +kernel
theorem dX0_leakyMark_8 : decode cX0_leakyMark 8 = .ok (.invokevirtual 45, 3) := by decide +kernel
theorem dX0_leakyMark_11 : decode cX0_leakyMark 11 = .ok (.aload_n 0, 1) := by decide +kernel
theorem dX0_leakyMark_12 : decode cX0_leakyMark 12 = .ok (.aload_n 1, 1) := by decide +kernel
theorem dX0_leakyMark_13 : decode cX0_leakyMark 13 = .ok (.invokevirtual 67, 3) := by decide +kernel
theorem dX0_leakyMark_16 : decode cX0_leakyMark 16 = .ok (.isub, 1) := by decide +kernel
theorem dX0_leakyMark_17 : decode cX0_leakyMark 17 = .ok (.ireturn, 1) := by decide +kernel
theorem dX0_begin_0 : decode cX0_begin 0 = .ok (.aload_n 0, 1) := by decide +kernel
theorem dX0_begin_1 : decode cX0_begin 1 = .ok (.getfield 15, 3) := by decide +kernel
theorem dX0_begin_4 : decode cX0_begin 4 = .ok (.ifCond .lt 15, 3) := by decide +kernel
theorem dX0_begin_7 : decode cX0_begin 7 = .ok (.aload_n 0, 1) := by decide +kernel
theorem dX0_begin_8 : decode cX0_begin 8 = .ok (.getfield 15, 3) := by decide +kernel
theorem dX0_begin_11 : decode cX0_begin 11 = .ok (.aload_n 0, 1) := by decide +kernel
theorem dX0_begin_12 : decode cX0_begin 12 = .ok (.getfield 9, 3) := by decide +kernel
theorem dX0_begin_15 : decode cX0_begin 15 = .ok (.arraylength, 1) := by decide +kernel
theorem dX0_begin_16 : decode cX0_begin 16 = .ok (.if_icmp .lt 4, 3) := by decide +kernel
theorem dX0_begin_19 : decode cX0_begin 19 = .ok (.return_, 1) := by decide +kernel
theorem dX0_begin_20 : decode cX0_begin 20 = .ok (.aload_n 0, 1) := by decide +kernel
theorem dX0_begin_21 : decode cX0_begin 21 = .ok (.getfield 9, 3) := by decide +kernel
theorem dX0_begin_24 : decode cX0_begin 24 = .ok (.aload_n 0, 1) := by decide +kernel
theorem dX0_begin_25 : decode cX0_begin 25 = .ok (.getfield 15, 3) := by decide +kernel
theorem dX0_begin_28 : decode cX0_begin 28 = .ok (.iload_n 1, 1) := by decide +kernel
theorem dX0_begin_29 : decode cX0_begin 29 = .ok (.iastore, 1) := by decide +kernel
theorem dX0_begin_30 : decode cX0_begin 30 = .ok (.aload_n 0, 1) := by decide +kernel
theorem dX0_begin_31 : decode cX0_begin 31 = .ok (.dup, 1) := by decide +kernel
theorem dX0_begin_32 : decode cX0_begin 32 = .ok (.getfield 15, 3) := by decide +kernel
theorem dX0_begin_35 : decode cX0_begin 35 = .ok (.iconst 1, 1) := by decide +kernel
theorem dX0_begin_36 : decode cX0_begin 36 = .ok (.iadd, 1) := by decide +kernel
theorem dX0_begin_37 : decode cX0_begin 37 = .ok (.putfield 15, 3) := by decide +kernel
theorem dX0_begin_40 : decode cX0_begin 40 = .ok (.return_, 1) := by decide +kernel
theorem dX1_init_0 : decode cX1_init 0 = .ok (.aload_n 0, 1) := by decide +kernel
theorem dX1_init_1 : decode cX1_init 1 = .ok (.invokespecial 3, 3) := by decide +kernel
theorem dX1_init_4 : decode cX1_init 4 = .ok (.aload_n 0, 1) := by decide +kernel
theorem dX1_init_5 : decode cX1_init 5 = .ok (.new 9, 3) := by decide +kernel
theorem dX1_init_8 : decode cX1_init 8 = .ok (.dup, 1) := by decide +kernel
theorem dX1_init_9 : decode cX1_init 9 = .ok (.invokespecial 11, 3) := by decide +kernel
theorem dX1_init_12 : decode cX1_init 12 = .ok (.putfield 12, 3) := by decide +kernel
theorem dX1_init_15 : decode cX1_init 15 = .ok (.aload_n 0, 1) := by decide +kernel
theorem dX1_init_16 : decode cX1_init 16 = .ok (.iconst 0, 1) := by decide +kernel
theorem dX1_init_17 : decode cX1_init 17 = .ok (.putfield 18, 3) := by decide +kernel
theorem dX1_init_20 : decode cX1_init 20 = .ok (.aload_n 0, 1) := by decide +kernel
theorem dX1_init_21 : decode cX1_init 21 = .ok (.iconst 0, 1) := by decide +kernel
theorem dX1_init_22 : decode cX1_init 22 = .ok (.putfield 22, 3) := by decide +kernel
theorem dX1_init_25 : decode cX1_init 25 = .ok (.aload_n 0, 1) := by decide +kernel
theorem dX1_init_26 : decode cX1_init 26 = .ok (.bipush 50, 2) := by decide +kernel
theorem dX1_init_28 : decode cX1_init 28 = .ok (.putfield 25, 3) := by decide +kernel
theorem dX1_init_31 : decode cX1_init 31 = .ok (.aload_n 0, 1) := by decide +kernel
theorem dX1_init_32 : decode cX1_init 32 = .ok (.bipush 50, 2) := by decide +kernel
theorem dX1_init_34 : decode cX1_init 34 = .ok (.putfield 28, 3) := by decide +kernel
theorem dX1_init_37 : decode cX1_init 37 = .ok (.aload_n 0, 1) := by decide +kernel
theorem dX1_init_38 : decode cX1_init 38 = .ok (.iconst 0, 1) := by decide +kernel
theorem dX1_init_39 : decode cX1_init 39 = .ok (.putfield 31, 3) := by decide +kernel
theorem dX1_init_42 : decode cX1_init 42 = .ok (.aload_n 0, 1) := by decide +kernel
theorem dX1_init_43 : decode cX1_init 43 = .ok (.iconst 0, 1) := by decide +kernel
theorem dX1_init_44 : decode cX1_init 44 = .ok (.putfield 34, 3) := by decide +kernel
theorem dX1_init_47 : decode cX1_init 47 = .ok (.aload_n 0, 1) := by decide +kernel
theorem dX1_init_48 : decode cX1_init 48 = .ok (.iconst 0, 1) := by decide +kernel
theorem dX1_init_49 : decode cX1_init 49 = .ok (.putfield 37, 3) := by decide +kernel
theorem dX1_init_52 : decode cX1_init 52 = .ok (.aload_n 0, 1) := by decide +kernel
theorem dX1_init_53 : decode cX1_init 53 = .ok (.iconst 0, 1) := by decide +kernel
theorem dX1_init_54 : decode cX1_init 54 = .ok (.putfield 41, 3) := by decide +kernel
theorem dX1_init_57 : decode cX1_init 57 = .ok (.aload_n 0, 1) := by decide +kernel
theorem dX1_init_58 : decode cX1_init 58 = .ok (.iconst 0, 1) := by decide +kernel
theorem dX1_init_59 : decode cX1_init 59 = .ok (.putfield 44, 3) := by decide +kernel
theorem dX1_init_62 : decode cX1_init 62 = .ok (.aload_n 0, 1) := by decide +kernel
theorem dX1_init_63 : decode cX1_init 63 = .ok (.iload_n 1, 1) := by decide +kernel
theorem dX1_init_64 : decode cX1_init 64 = .ok (.putfield 47, 3) := by decide +kernel
theorem dX1_init_67 : decode cX1_init 67 = .ok (.aload_n 0, 1) := by decide +kernel
theorem dX1_init_68 : decode cX1_init 68 = .ok (.iload_n 2, 1) := by decide +kernel
theorem dX1_init_69 : decode cX1_init 69 = .ok (.putfield 50, 3) := by decide +kernel
theorem dX1_init_72 : decode cX1_init 72 = .ok (.aload_n 0, 1) := by decide +kernel
theorem dX1_init_73 : decode cX1_init 73 = .ok (.iload_n 3, 1) := by decide +kernel
theorem dX1_init_74 : decode cX1_init 74 = .ok (.putfield 53, 3) := by decide +kernel
theorem dX1_init_77 : decode cX1_init 77 = .ok (.aload_n 0, 1) := by decide +kernel
theorem dX1_init_78 : decode cX1_init 78 = .ok (.iload_n 3, 1) := by decide +kernel
theorem dX1_init_79 : decode cX1_init 79 = .ok (.putfield 56, 3) := by decide +kernel
theorem dX1_init_82 : decode cX1_init 82 = .ok (.aload_n 0, 1) := by decide +kernel
theorem dX1_init_83 : decode cX1_init 83 = .ok (.iload_n 3, 1) := by decide +kernel
theorem dX1_init_84 : decode cX1_init 84 = .ok (.putfield 59, 3) := by decide +kernel
theorem dX1_init_87 : decode cX1_init 87 = .ok (.return_, 1) := by decide +kernel
theorem dX1_low_0 : decode cX1_low 0 = .ok (.aload_n 0, 1) := by decide +kernel
theorem dX1_low_1 : decode cX1_low 1 = .ok (.getfield 18, 3) := by decide +kernel
theorem dX1_low_4 : decode cX1_low 4 = .ok (.aload_n 0, 1) := by decide +kernel
theorem dX1_low_5 : decode cX1_low 5 = .ok (.getfield 22, 3) := by decide +kernel
theorem dX1_low_8 : decode cX1_low 8 = .ok (.iload_n 1, 1) := by decide +kernel
theorem dX1_low_9 : decode cX1_low 9 = .ok (.imul, 1) := by decide +kernel
theorem dX1_low_10 : decode cX1_low 10 = .ok (.iadd, 1) := by decide +kernel
theorem dX1_low_11 : decode cX1_low 11 = .ok (.ireturn, 1) := by decide +kernel
theorem dX1_high_0 : decode cX1_high 0 = .ok (.aload_n 0, 1) := by decide +kernel
theorem dX1_high_1 : decode cX1_high 1 = .ok (.getfield 25, 3) := by decide +kernel
theorem dX1_high_4 : decode cX1_high 4 = .ok (.aload_n 0, 1) := by decide +kernel
theorem dX1_high_5 : decode cX1_high 5 = .ok (.getfield 28, 3) := by decide +kernel
theorem dX1_high_8 : decode cX1_high 8 = .ok (.iload_n 1, 1) := by decide +kernel
theorem dX1_high_9 : decode cX1_high 9 = .ok (.imul, 1) := by decide +kernel
theorem dX1_high_10 : decode cX1_high 10 = .ok (.iadd, 1) := by decide +kernel
theorem dX1_high_11 : decode cX1_high 11 = .ok (.ireturn, 1) := by decide +kernel
theorem dX1_endDay_0 : decode cX1_endDay 0 = .ok (.aload_n 0, 1) := by decide +kernel
theorem dX1_endDay_1 : decode cX1_endDay 1 = .ok (.iconst 0, 1) := by decide +kernel
theorem dX1_endDay_2 : decode cX1_endDay 2 = .ok (.aload_n 0, 1) := by decide +kernel
theorem dX1_endDay_3 : decode cX1_endDay 3 = .ok (.getfield 56, 3) := by decide +kernel
theorem dX1_endDay_6 : decode cX1_endDay 6 = .ok (.aload_n 0, 1) := by decide +kernel
theorem dX1_endDay_7 : decode cX1_endDay 7 = .ok (.iload_n 1, 1) := by decide +kernel
theorem dX1_endDay_8 : decode cX1_endDay 8 = .ok (.invokevirtual 62, 3) := by decide +kernel
theorem dX1_endDay_11 : decode cX1_endDay 11 = .ok (.isub, 1) := by decide +kernel
theorem dX1_endDay_12 : decode cX1_endDay 12 = .ok (.invokestatic 66, 3) := by decide +kernel
theorem dX1_endDay_15 : decode cX1_endDay 15 = .ok (.putfield 56, 3) := by decide +kernel
theorem dX1_endDay_18 : decode cX1_endDay 18 = .ok (.aload_n 0, 1) := by decide +kernel
theorem dX1_endDay_19 : decode cX1_endDay 19 = .ok (.iconst 0, 1) := by decide +kernel
theorem dX1_endDay_20 : decode cX1_endDay 20 = .ok (.aload_n 0, 1) := by decide +kernel
theorem dX1_endDay_21 : decode cX1_endDay 21 = .ok (.getfield 59, 3) := by decide +kernel
theorem dX1_endDay_24 : decode cX1_endDay 24 = .ok (.aload_n 0, 1) := by decide +kernel
theorem dX1_endDay_25 : decode cX1_endDay 25 = .ok (.iload_n 1, 1) := by decide +kernel
theorem dX1_endDay_26 : decode cX1_endDay 26 = .ok (.invokevirtual 72, 3) := by decide +kernel
theorem dX1_endDay_29 : decode cX1_endDay 29 = .ok (.isub, 1) := by decide +kernel
theorem dX1_endDay_30 : decode cX1_endDay 30 = .ok (.invokestatic 66, 3) := by decide +kernel
theorem dX1_endDay_33 : decode cX1_endDay 33 = .ok (.putfield 59, 3) := by decide +kernel
theorem dX1_endDay_36 : decode cX1_endDay 36 = .ok (.aload_n 0, 1) := by decide +kernel
theorem dX1_endDay_37 : decode cX1_endDay 37 = .ok (.dup, 1) := by decide +kernel
theorem dX1_endDay_38 : decode cX1_endDay 38 = .ok (.getfield 41, 3) := by decide +kernel
theorem dX1_endDay_41 : decode cX1_endDay 41 = .ok (.iconst 1, 1) := by decide +kernel
theorem dX1_endDay_42 : decode cX1_endDay 42 = .ok (.iadd, 1) := by decide +kernel
theorem dX1_endDay_43 : decode cX1_endDay 43 = .ok (.putfield 41, 3) := by decide +kernel
theorem dX1_endDay_46 : decode cX1_endDay 46 = .ok (.aload_n 0, 1) := by decide +kernel
theorem dX1_endDay_47 : decode cX1_endDay 47 = .ok (.dup, 1) := by decide +kernel
theorem dX1_endDay_48 : decode cX1_endDay 48 = .ok (.getfield 44, 3) := by decide +kernel
theorem dX1_endDay_51 : decode cX1_endDay 51 = .ok (.iload_n 1, 1) := by decide +kernel
theorem dX1_endDay_52 : decode cX1_endDay 52 = .ok (.iadd, 1) := by decide +kernel
theorem dX1_endDay_53 : decode cX1_endDay 53 = .ok (.putfield 44, 3) := by decide +kernel
theorem dX1_endDay_56 : decode cX1_endDay 56 = .ok (.return_, 1) := by decide +kernel
theorem dX1_isSafe_0 : decode cX1_isSafe 0 = .ok (.aload_n 0, 1) := by decide +kernel
theorem dX1_isSafe_1 : decode cX1_isSafe 1 = .ok (.getfield 59, 3) := by decide +kernel
theorem dX1_isSafe_4 : decode cX1_isSafe 4 = .ok (.ifCond .le 7, 3) := by decide +kernel
theorem dX1_isSafe_7 : decode cX1_isSafe 7 = .ok (.iconst 1, 1) := by decide +kernel
theorem dX1_isSafe_8 : decode cX1_isSafe 8 = .ok (.goto 4, 3) := by decide +kernel
theorem dX1_isSafe_11 : decode cX1_isSafe 11 = .ok (.iconst 0, 1) := by decide +kernel
theorem dX1_isSafe_12 : decode cX1_isSafe 12 = .ok (.ireturn, 1) := by decide +kernel
theorem dX1_isDue_0 : decode cX1_isDue 0 = .ok (.aload_n 0, 1) := by decide +kernel
theorem dX1_isDue_1 : decode cX1_isDue 1 = .ok (.getfield 59, 3) := by decide +kernel
theorem dX1_isDue_4 : decode cX1_isDue 4 = .ok (.iload_n 1, 1) := by decide +kernel
theorem dX1_isDue_5 : decode cX1_isDue 5 = .ok (.aload_n 0, 1) := by decide +kernel
theorem dX1_isDue_6 : decode cX1_isDue 6 = .ok (.iload_n 2, 1) := by decide +kernel
theorem dX1_isDue_7 : decode cX1_isDue 7 = .ok (.invokevirtual 72, 3) := by decide +kernel
theorem dX1_isDue_10 : decode cX1_isDue 10 = .ok (.imul, 1) := by decide +kernel
theorem dX1_isDue_11 : decode cX1_isDue 11 = .ok (.if_icmp .gt 7, 3) := by decide +kernel
theorem dX1_isDue_14 : decode cX1_isDue 14 = .ok (.iconst 1, 1) := by decide +kernel
theorem dX1_isDue_15 : decode cX1_isDue 15 = .ok (.goto 4, 3) := by decide +kernel
theorem dX1_isDue_18 : decode cX1_isDue 18 = .ok (.iconst 0, 1) := by decide +kernel
theorem dX1_isDue_19 : decode cX1_isDue 19 = .ok (.ireturn, 1) := by decide +kernel
theorem dX1_daysToGo_0 : decode cX1_daysToGo 0 = .ok (.aload_n 0, 1) := by decide +kernel
theorem dX1_daysToGo_1 : decode cX1_daysToGo 1 = .ok (.iload_n 1, 1) := by decide +kernel
theorem dX1_daysToGo_2 : decode cX1_daysToGo 2 = .ok (.invokevirtual 72, 3) := by decide +kernel
theorem dX1_daysToGo_5 : decode cX1_daysToGo 5 = .ok (.istore_n 2, 1) := by decide +kernel
theorem dX1_daysToGo_6 : decode cX1_daysToGo 6 = .ok (.iload_n 2, 1) := by decide +kernel
theorem dX1_daysToGo_7 : decode cX1_daysToGo 7 = .ok (.ifCond .gt 9, 3) := by decide +kernel
theorem dX1_daysToGo_10 : decode cX1_daysToGo 10 = .ok (.sipush 1000, 3) := by decide +kernel
theorem dX1_daysToGo_13 : decode cX1_daysToGo 13 = .ok (.goto 9, 3) := by decide +kernel
theorem dX1_daysToGo_16 : decode cX1_daysToGo 16 = .ok (.aload_n 0, 1) := by decide +kernel
theorem dX1_daysToGo_17 : decode cX1_daysToGo 17 = .ok (.getfield 59, 3) := by decide +kernel
theorem dX1_daysToGo_20 : decode cX1_daysToGo 20 = .ok (.iload_n 2, 1) := by decide +kernel
theorem dX1_daysToGo_21 : decode cX1_daysToGo 21 = .ok (.idiv, 1) := by decide +kernel
theorem dX1_daysToGo_22 : decode cX1_daysToGo 22 = .ok (.ireturn, 1) := by decide +kernel
theorem dX1_daysAboveZero_0 : decode cX1_daysAboveZero 0 = .ok (.aload_n 0, 1) := by decide +kernel
theorem dX1_daysAboveZero_1 : decode cX1_daysAboveZero 1 = .ok (.getfield 59, 3) := by decide +kernel
theorem dX1_daysAboveZero_4 : decode cX1_daysAboveZero 4 = .ok (.ifCond .gt 5, 3) := by decide +kernel
theorem dX1_daysAboveZero_7 : decode cX1_daysAboveZero 7 = .ok (.iconst 0, 1) := by decide +kernel
theorem dX1_daysAboveZero_8 : decode cX1_daysAboveZero 8 = .ok (.ireturn, 1) := by decide +kernel
theorem dX1_daysAboveZero_9 : decode cX1_daysAboveZero 9 = .ok (.aload_n 0, 1) := by decide +kernel
theorem dX1_daysAboveZero_10 : decode cX1_daysAboveZero 10 = .ok (.iload_n 1, 1) := by decide +kernel
theorem dX1_daysAboveZero_11 : decode cX1_daysAboveZero 11 = .ok (.invokevirtual 72, 3) := by decide +kernel
theorem dX1_daysAboveZero_14 : decode cX1_daysAboveZero 14 = .ok (.istore_n 2, 1) := by decide +kernel
theorem dX1_daysAboveZero_15 : decode cX1_daysAboveZero 15 = .ok (.iload_n 2, 1) := by decide +kernel
theorem dX1_daysAboveZero_16 : decode cX1_daysAboveZero 16 = .ok (.ifCond .gt 9, 3) := by decide +kernel
theorem dX1_daysAboveZero_19 : decode cX1_daysAboveZero 19 = .ok (.sipush 500, 3) := by decide +kernel
theorem dX1_daysAboveZero_22 : decode cX1_daysAboveZero 22 = .ok (.goto 17, 3) := by decide +kernel
theorem dX1_daysAboveZero_25 : decode cX1_daysAboveZero 25 = .ok (.sipush 500, 3) := by decide +kernel
theorem dX1_daysAboveZero_28 : decode cX1_daysAboveZero 28 = .ok (.aload_n 0, 1) := by decide +kernel
theorem dX1_daysAboveZero_29 : decode cX1_daysAboveZero 29 = .ok (.getfield 59, 3) := by decide +kernel
theorem dX1_daysAboveZero_32 : decode cX1_daysAboveZero 32 = .ok (.iconst 1, 1) := by decide +kernel
theorem dX1_daysAboveZero_33 : decode cX1_daysAboveZero 33 = .ok (.isub, 1) := by decide +kernel
theorem dX1_daysAboveZero_34 : decode cX1_daysAboveZero 34 = .ok (.iload_n 2, 1) := by decide +kernel
theorem dX1_daysAboveZero_35 : decode cX1_daysAboveZero 35 = .ok (.idiv, 1) := by decide +kernel
theorem dX1_daysAboveZero_36 : decode cX1_daysAboveZero 36 = .ok (.invokestatic 75, 3) := by decide +kernel
theorem dX1_daysAboveZero_39 : decode cX1_daysAboveZero 39 = .ok (.ireturn, 1) := by decide +kernel
theorem dX1_mayNeed_0 : decode cX1_mayNeed 0 = .ok (.aload_n 0, 1) := by decide +kernel
theorem dX1_mayNeed_1 : decode cX1_mayNeed 1 = .ok (.getfield 53, 3) := by decide +kernel
theorem dX1_mayNeed_4 : decode cX1_mayNeed 4 = .ok (.aload_n 0, 1) := by decide +kernel
theorem dX1_mayNeed_5 : decode cX1_mayNeed 5 = .ok (.getfield 59, 3) := by decide +kernel
theorem dX1_mayNeed_8 : decode cX1_mayNeed 8 = .ok (.isub, 1) := by decide +kernel
theorem dX1_mayNeed_9 : decode cX1_mayNeed 9 = .ok (.ireturn, 1) := by decide +kernel
theorem dX1_takeFill_0 : decode cX1_takeFill 0 = .ok (.aload_n 0, 1) := by decide +kernel
theorem dX1_takeFill_1 : decode cX1_takeFill 1 = .ok (.aload_n 0, 1) := by decide +kernel
theorem dX1_takeFill_2 : decode cX1_takeFill 2 = .ok (.iload_n 1, 1) := by decide +kernel
theorem dX1_takeFill_3 : decode cX1_takeFill 3 = .ok (.invokevirtual 78, 3) := by decide +kernel
theorem dX1_takeFill_6 : decode cX1_takeFill 6 = .ok (.putfield 34, 3) := by decide +kernel
theorem dX1_takeFill_9 : decode cX1_takeFill 9 = .ok (.aload_n 0, 1) := by decide +kernel
theorem dX1_takeFill_10 : decode cX1_takeFill 10 = .ok (.getfield 34, 3) := by decide +kernel
theorem dX1_takeFill_13 : decode cX1_takeFill 13 = .ok (.ifCond .eq 11, 3) := by decide +kernel
theorem dX1_takeFill_16 : decode cX1_takeFill 16 = .ok (.aload_n 0, 1) := by decide +kernel
theorem dX1_takeFill_17 : decode cX1_takeFill 17 = .ok (.iconst 1, 1) := by decide +kernel
theorem dX1_takeFill_18 : decode cX1_takeFill 18 = .ok (.putfield 37, 3) := by decide +kernel
theorem dX1_takeFill_21 : decode cX1_takeFill 21 = .ok (.goto 24, 3) := by decide +kernel
theorem dX1_takeFill_24 : decode cX1_takeFill 24 = .ok (.iload_n 1, 1) := by decide +kernel
theorem dX1_takeFill_25 : decode cX1_takeFill 25 = .ok (.aload_n 0, 1) := by decide +kernel
theorem dX1_takeFill_26 : decode cX1_takeFill 26 = .ok (.getfield 53, 3) := by decide +kernel
theorem dX1_takeFill_29 : decode cX1_takeFill 29 = .ok (.if_icmp .ge 16, 3) := by decide +kernel
theorem dX1_takeFill_32 : decode cX1_takeFill 32 = .ok (.aload_n 0, 1) := by decide +kernel
theorem dX1_takeFill_33 : decode cX1_takeFill 33 = .ok (.getfield 41, 3) := by decide +kernel
theorem dX1_takeFill_36 : decode cX1_takeFill 36 = .ok (.iconst 1, 1) := by decide +kernel
theorem dX1_takeFill_37 : decode cX1_takeFill 37 = .ok (.if_icmp .lt 8, 3) := by decide +kernel
theorem dX1_takeFill_40 : decode cX1_takeFill 40 = .ok (.aload_n 0, 1) := by decide +kernel
theorem dX1_takeFill_41 : decode cX1_takeFill 41 = .ok (.iload_n 1, 1) := by decide +kernel
theorem dX1_takeFill_42 : decode cX1_takeFill 42 = .ok (.invokevirtual 81, 3) := by decide +kernel
theorem dX1_takeFill_45 : decode cX1_takeFill 45 = .ok (.aload_n 0, 1) := by decide +kernel
theorem dX1_takeFill_46 : decode cX1_takeFill 46 = .ok (.dup, 1) := by decide +kernel
theorem dX1_takeFill_47 : decode cX1_takeFill 47 = .ok (.getfield 31, 3) := by decide +kernel
theorem dX1_takeFill_50 : decode cX1_takeFill 50 = .ok (.iconst 1, 1) := by decide +kernel
theorem dX1_takeFill_51 : decode cX1_takeFill 51 = .ok (.iadd, 1) := by decide +kernel
theorem dX1_takeFill_52 : decode cX1_takeFill 52 = .ok (.putfield 31, 3) := by decide +kernel
theorem dX1_takeFill_55 : decode cX1_takeFill 55 = .ok (.aload_n 0, 1) := by decide +kernel
theorem dX1_takeFill_56 : decode cX1_takeFill 56 = .ok (.aload_n 0, 1) := by decide +kernel
theorem dX1_takeFill_57 : decode cX1_takeFill 57 = .ok (.getfield 53, 3) := by decide +kernel
theorem dX1_takeFill_60 : decode cX1_takeFill 60 = .ok (.putfield 56, 3) := by decide +kernel
theorem dX1_takeFill_63 : decode cX1_takeFill 63 = .ok (.aload_n 0, 1) := by decide +kernel
theorem dX1_takeFill_64 : decode cX1_takeFill 64 = .ok (.aload_n 0, 1) := by decide +kernel
theorem dX1_takeFill_65 : decode cX1_takeFill 65 = .ok (.getfield 53, 3) := by decide +kernel
theorem dX1_takeFill_68 : decode cX1_takeFill 68 = .ok (.putfield 59, 3) := by decide +kernel
theorem dX1_takeFill_71 : decode cX1_takeFill 71 = .ok (.aload_n 0, 1) := by decide +kernel
theorem dX1_takeFill_72 : decode cX1_takeFill 72 = .ok (.iconst 0, 1) := by decide +kernel
theorem dX1_takeFill_73 : decode cX1_takeFill 73 = .ok (.putfield 41, 3) := by decide +kernel
theorem dX1_takeFill_76 : decode cX1_takeFill 76 = .ok (.aload_n 0, 1) := by decide +kernel
theorem dX1_takeFill_77 : decode cX1_takeFill 77 = .ok (.iconst 0, 1) := by decide +kernel
theorem dX1_takeFill_78 : decode cX1_takeFill 78 = .ok (.putfield 44, 3) := by decide +kernel
theorem dX1_takeFill_81 : decode cX1_takeFill 81 = .ok (.return_, 1) := by decide +kernel
theorem dX1_noteOf_0 : decode cX1_noteOf 0 = .ok (.iload_n 1, 1) := by decide +kernel
theorem dX1_noteOf_1 : decode cX1_noteOf 1 = .ok (.aload_n 0, 1) := by decide +kernel
theorem dX1_noteOf_2 : decode cX1_noteOf 2 = .ok (.getfield 41, 3) := by decide +kernel
theorem dX1_noteOf_5 : decode cX1_noteOf 5 = .ok (.aload_n 0, 1) := by decide +kernel
theorem dX1_noteOf_6 : decode cX1_noteOf 6 = .ok (.getfield 25, 3) := by decide +kernel
theorem dX1_noteOf_9 : decode cX1_noteOf 9 = .ok (.imul, 1) := by decide +kernel
theorem dX1_noteOf_10 : decode cX1_noteOf 10 = .ok (.aload_n 0, 1) := by decide +kernel
theorem dX1_noteOf_11 : decode cX1_noteOf 11 = .ok (.getfield 44, 3) := by decide +kernel
theorem dX1_noteOf_14 : decode cX1_noteOf 14 = .ok (.aload_n 0, 1) := by decide +kernel
theorem dX1_noteOf_15 : decode cX1_noteOf 15 = .ok (.getfield 28, 3) := by decide +kernel
theorem dX1_noteOf_18 : decode cX1_noteOf 18 = .ok (.imul, 1) := by decide +kernel
theorem dX1_noteOf_19 : decode cX1_noteOf 19 = .ok (.iadd, 1) := by decide +kernel
theorem dX1_noteOf_20 : decode cX1_noteOf 20 = .ok (.if_icmp .le 5, 3) := by decide +kernel
theorem dX1_noteOf_23 : decode cX1_noteOf 23 = .ok (.iconst 1, 1) := by decide +kernel
theorem dX1_noteOf_24 : decode cX1_noteOf 24 = .ok (.ireturn, 1) := by decide +kernel
theorem dX1_noteOf_25 : decode cX1_noteOf 25 = .ok (.iload_n 1, 1) := by decide +kernel
theorem dX1_noteOf_26 : decode cX1_noteOf 26 = .ok (.aload_n 0, 1) := by decide +kernel
theorem dX1_noteOf_27 : decode cX1_noteOf 27 = .ok (.getfield 41, 3) := by decide +kernel
theorem dX1_noteOf_30 : decode cX1_noteOf 30 = .ok (.aload_n 0, 1) := by decide +kernel
theorem dX1_noteOf_31 : decode cX1_noteOf 31 = .ok (.getfield 18, 3) := by decide +kernel
theorem dX1_noteOf_34 : decode cX1_noteOf 34 = .ok (.imul, 1) := by decide +kernel
theorem dX1_noteOf_35 : decode cX1_noteOf 35 = .ok (.aload_n 0, 1) := by decide +kernel
theorem dX1_noteOf_36 : decode cX1_noteOf 36 = .ok (.getfield 44, 3) := by decide +kernel
theorem dX1_noteOf_39 : decode cX1_noteOf 39 = .ok (.aload_n 0, 1) := by decide +kernel
theorem dX1_noteOf_40 : decode cX1_noteOf 40 = .ok (.getfield 22, 3) := by decide +kernel
theorem dX1_noteOf_43 : decode cX1_noteOf 43 = .ok (.imul, 1) := by decide +kernel
theorem dX1_noteOf_44 : decode cX1_noteOf 44 = .ok (.iadd, 1) := by decide +kernel
theorem dX1_noteOf_45 : decode cX1_noteOf 45 = .ok (.if_icmp .ge 15, 3) := by decide +kernel
theorem dX1_noteOf_48 : decode cX1_noteOf 48 = .ok (.iload_n 1, 1) := by decide +kernel
theorem dX1_noteOf_49 : decode cX1_noteOf 49 = .ok (.aload_n 0, 1) := by decide +kernel
theorem dX1_noteOf_50 : decode cX1_noteOf 50 = .ok (.getfield 53, 3) := by decide +kernel
theorem dX1_noteOf_53 : decode cX1_noteOf 53 = .ok (.if_icmp .ge 7, 3) := by decide +kernel
theorem dX1_noteOf_56 : decode cX1_noteOf 56 = .ok (.iconst 2, 1) := by decide +kernel
theorem dX1_noteOf_57 : decode cX1_noteOf 57 = .ok (.goto 4, 3) := by decide +kernel
theorem dX1_noteOf_60 : decode cX1_noteOf 60 = .ok (.iconst 0, 1) := by decide +kernel
theorem dX1_noteOf_61 : decode cX1_noteOf 61 = .ok (.ireturn, 1) := by decide +kernel
theorem dX1_narrow_0 : decode cX1_narrow 0 = .ok (.aload_n 0, 1) := by decide +kernel
theorem dX1_narrow_1 : decode cX1_narrow 1 = .ok (.aload_n 0, 1) := by decide +kernel
theorem dX1_narrow_2 : decode cX1_narrow 2 = .ok (.getfield 18, 3) := by decide +kernel
theorem dX1_narrow_5 : decode cX1_narrow 5 = .ok (.aload_n 0, 1) := by decide +kernel
theorem dX1_narrow_6 : decode cX1_narrow 6 = .ok (.getfield 25, 3) := by decide +kernel
theorem dX1_narrow_9 : decode cX1_narrow 9 = .ok (.iload_n 1, 1) := by decide +kernel
theorem dX1_narrow_10 : decode cX1_narrow 10 = .ok (.aload_n 0, 1) := by decide +kernel
theorem dX1_narrow_11 : decode cX1_narrow 11 = .ok (.getfield 44, 3) := by decide +kernel
theorem dX1_narrow_14 : decode cX1_narrow 14 = .ok (.aload_n 0, 1) := by decide +kernel
theorem dX1_narrow_15 : decode cX1_narrow 15 = .ok (.getfield 22, 3) := by decide +kernel
theorem dX1_narrow_18 : decode cX1_narrow 18 = .ok (.imul, 1) := by decide +kernel
theorem dX1_narrow_19 : decode cX1_narrow 19 = .ok (.isub, 1) := by decide +kernel
theorem dX1_narrow_20 : decode cX1_narrow 20 = .ok (.aload_n 0, 1) := by decide +kernel
theorem dX1_narrow_21 : decode cX1_narrow 21 = .ok (.getfield 41, 3) := by decide +kernel
theorem dX1_narrow_24 : decode cX1_narrow 24 = .ok (.invokestatic 85, 3) := by decide +kernel
theorem dX1_narrow_27 : decode cX1_narrow 27 = .ok (.invokestatic 75, 3) := by decide +kernel
theorem dX1_narrow_30 : decode cX1_narrow 30 = .ok (.invokestatic 66, 3) := by decide +kernel
theorem dX1_narrow_33 : decode cX1_narrow 33 = .ok (.putfield 25, 3) := by decide +kernel
theorem dX1_narrow_36 : decode cX1_narrow 36 = .ok (.aload_n 0, 1) := by decide +kernel
theorem dX1_narrow_37 : decode cX1_narrow 37 = .ok (.getfield 44, 3) := by decide +kernel
theorem dX1_narrow_40 : decode cX1_narrow 40 = .ok (.ifCond .le 39, 3) := by decide +kernel
theorem dX1_narrow_43 : decode cX1_narrow 43 = .ok (.aload_n 0, 1) := by decide +kernel
theorem dX1_narrow_44 : decode cX1_narrow 44 = .ok (.aload_n 0, 1) := by decide +kernel
theorem dX1_narrow_45 : decode cX1_narrow 45 = .ok (.getfield 22, 3) := by decide +kernel
theorem dX1_narrow_48 : decode cX1_narrow 48 = .ok (.aload_n 0, 1) := by decide +kernel
theorem dX1_narrow_49 : decode cX1_narrow 49 = .ok (.getfield 28, 3) := by decide +kernel
theorem dX1_narrow_52 : decode cX1_narrow 52 = .ok (.iload_n 1, 1) := by decide +kernel
theorem dX1_narrow_53 : decode cX1_narrow 53 = .ok (.aload_n 0, 1) := by decide +kernel
theorem dX1_narrow_54 : decode cX1_narrow 54 = .ok (.getfield 41, 3) := by decide +kernel
theorem dX1_narrow_57 : decode cX1_narrow 57 = .ok (.aload_n 0, 1) := by decide +kernel
theorem dX1_narrow_58 : decode cX1_narrow 58 = .ok (.getfield 18, 3) := by decide +kernel
theorem dX1_narrow_61 : decode cX1_narrow 61 = .ok (.imul, 1) := by decide +kernel
theorem dX1_narrow_62 : decode cX1_narrow 62 = .ok (.isub, 1) := by decide +kernel
theorem dX1_narrow_63 : decode cX1_narrow 63 = .ok (.aload_n 0, 1) := by decide +kernel
theorem dX1_narrow_64 : decode cX1_narrow 64 = .ok (.getfield 44, 3) := by decide +kernel
theorem dX1_narrow_67 : decode cX1_narrow 67 = .ok (.invokestatic 85, 3) := by decide +kernel
theorem dX1_narrow_70 : decode cX1_narrow 70 = .ok (.invokestatic 75, 3) := by decide +kernel
theorem dX1_narrow_73 : decode cX1_narrow 73 = .ok (.invokestatic 66, 3) := by decide +kernel
theorem dX1_narrow_76 : decode cX1_narrow 76 = .ok (.putfield 28, 3) := by decide +kernel
theorem dX1_narrow_79 : decode cX1_narrow 79 = .ok (.aload_n 0, 1) := by decide +kernel
theorem dX1_narrow_80 : decode cX1_narrow 80 = .ok (.aload_n 0, 1) := by decide +kernel
theorem dX1_narrow_81 : decode cX1_narrow 81 = .ok (.getfield 25, 3) := by decide +kernel
theorem dX1_narrow_84 : decode cX1_narrow 84 = .ok (.aload_n 0, 1) := by decide +kernel
theorem dX1_narrow_85 : decode cX1_narrow 85 = .ok (.getfield 18, 3) := by decide +kernel
theorem dX1_narrow_88 : decode cX1_narrow 88 = .ok (.iload_n 1, 1) := by decide +kernel
theorem dX1_narrow_89 : decode cX1_narrow 89 = .ok (.aload_n 0, 1) := by decide +kernel
theorem dX1_narrow_90 : decode cX1_narrow 90 = .ok (.getfield 44, 3) := by decide +kernel
theorem dX1_narrow_93 : decode cX1_narrow 93 = .ok (.aload_n 0, 1) := by decide +kernel
theorem dX1_narrow_94 : decode cX1_narrow 94 = .ok (.getfield 28, 3) := by decide +kernel
theorem dX1_narrow_97 : decode cX1_narrow 97 = .ok (.imul, 1) := by decide +kernel
theorem dX1_narrow_98 : decode cX1_narrow 98 = .ok (.isub, 1) := by decide +kernel
theorem dX1_narrow_99 : decode cX1_narrow 99 = .ok (.aload_n 0, 1) := by decide +kernel
theorem dX1_narrow_100 : decode cX1_narrow 100 = .ok (.getfield 41, 3) := by decide +kernel
theorem dX1_narrow_103 : decode cX1_narrow 103 = .ok (.invokestatic 88, 3) := by decide +kernel
theorem dX1_narrow_106 : decode cX1_narrow 106 = .ok (.invokestatic 66, 3) := by decide +kernel
theorem dX1_narrow_109 : decode cX1_narrow 109 = .ok (.invokestatic 75, 3) := by decide +kernel
theorem dX1_narrow_112 : decode cX1_narrow 112 = .ok (.putfield 18, 3) := by decide +kernel
theorem dX1_narrow_115 : decode cX1_narrow 115 = .ok (.aload_n 0, 1) := by decide +kernel
theorem dX1_narrow_116 : decode cX1_narrow 116 = .ok (.getfield 44, 3) := by decide +kernel
theorem dX1_narrow_119 : decode cX1_narrow 119 = .ok (.ifCond .le 39, 3) := by decide +kernel
theorem dX1_narrow_122 : decode cX1_narrow 122 = .ok (.aload_n 0, 1) := by decide +kernel
theorem dX1_narrow_123 : decode cX1_narrow 123 = .ok (.aload_n 0, 1) := by decide +kernel
theorem dX1_narrow_124 : decode cX1_narrow 124 = .ok (.getfield 28, 3) := by decide +kernel
theorem dX1_narrow_127 : decode cX1_narrow 127 = .ok (.aload_n 0, 1) := by decide +kernel
theorem dX1_narrow_128 : decode cX1_narrow 128 = .ok (.getfield 22, 3) := by decide +kernel
theorem dX1_narrow_131 : decode cX1_narrow 131 = .ok (.iload_n 1, 1) := by decide +kernel
theorem dX1_narrow_132 : decode cX1_narrow 132 = .ok (.aload_n 0, 1) := by decide +kernel
theorem dX1_narrow_133 : decode cX1_narrow 133 = .ok (.getfield 41, 3) := by decide +kernel
theorem dX1_narrow_136 : decode cX1_narrow 136 = .ok (.aload_n 0, 1) := by decide +kernel
theorem dX1_narrow_137 : decode cX1_narrow 137 = .ok (.getfield 25, 3) := by decide +kernel
theorem dX1_narrow_140 : decode cX1_narrow 140 = .ok (.imul, 1) := by decide +kernel
theorem dX1_narrow_141 : decode cX1_narrow 141 = .ok (.isub, 1) := by decide +kernel
theorem dX1_narrow_142 : decode cX1_narrow 142 = .ok (.aload_n 0, 1) := by decide +kernel
theorem dX1_narrow_143 : decode cX1_narrow 143 = .ok (.getfield 44, 3) := by decide +kernel
theorem dX1_narrow_146 : decode cX1_narrow 146 = .ok (.invokestatic 88, 3) := by decide +kernel
theorem dX1_narrow_149 : decode cX1_narrow 149 = .ok (.invokestatic 66, 3) := by decide +kernel
theorem dX1_narrow_152 : decode cX1_narrow 152 = .ok (.invokestatic 75, 3) := by decide +kernel
theorem dX1_narrow_155 : decode cX1_narrow 155 = .ok (.putfield 22, 3) := by decide +kernel
theorem dX1_narrow_158 : decode cX1_narrow 158 = .ok (.return_, 1) := by decide +kernel
theorem dX1_cut_0 : decode cX1_cut 0 = .ok (.iload_n 1, 1) := by decide +kernel
theorem dX1_cut_1 : decode cX1_cut 1 = .ok (.ifCond .gt 7, 3) := by decide +kernel
theorem dX1_cut_4 : decode cX1_cut 4 = .ok (.iconst 0, 1) := by decide +kernel
theorem dX1_cut_5 : decode cX1_cut 5 = .ok (.goto 6, 3) := by decide +kernel
theorem dX1_cut_8 : decode cX1_cut 8 = .ok (.iload_n 0, 1) := by decide +kernel
theorem dX1_cut_9 : decode cX1_cut 9 = .ok (.iload_n 1, 1) := by decide +kernel
theorem dX1_cut_10 : decode cX1_cut 10 = .ok (.idiv, 1) := by decide +kernel
theorem dX1_cut_11 : decode cX1_cut 11 = .ok (.ireturn, 1) := by decide +kernel
theorem dX1_roundedUp_0 : decode cX1_roundedUp 0 = .ok (.iload_n 1, 1) := by decide +kernel
theorem dX1_roundedUp_1 : decode cX1_roundedUp 1 = .ok (.ifCond .gt 7, 3) := by decide +kernel
theorem dX1_roundedUp_4 : decode cX1_roundedUp 4 = .ok (.iconst 0, 1) := by decide +kernel
theorem dX1_roundedUp_5 : decode cX1_roundedUp 5 = .ok (.goto 10, 3) := by decide +kernel
theorem dX1_roundedUp_8 : decode cX1_roundedUp 8 = .ok (.iload_n 0, 1) := by decide +kernel
theorem dX1_roundedUp_9 : decode cX1_roundedUp 9 = .ok (.ineg, 1) := by decide +kernel
theorem dX1_roundedUp_10 : decode cX1_roundedUp 10 = .ok (.iload_n 1, 1) := by decide +kernel
theorem dX1_roundedUp_11 : decode cX1_roundedUp 11 = .ok (.invokestatic 91, 3) := by decide +kernel
theorem dX1_roundedUp_14 : decode cX1_roundedUp 14 = .ok (.ineg, 1) := by decide +kernel
theorem dX1_roundedUp_15 : decode cX1_roundedUp 15 = .ok (.ireturn, 1) := by decide +kernel
theorem dX1_isOf_0 : decode cX1_isOf 0 = .ok (.iload_n 1, 1) := by decide +kernel
theorem dX1_isOf_1 : decode cX1_isOf 1 = .ok (.tableswitch 48 0 3 #[31, 33, 38, 43], 31) := by decide +kernel
theorem dX1_isOf_32 : decode cX1_isOf 32 = .ok (.iconst 1, 1) := by decide +kernel
theorem dX1_isOf_33 : decode cX1_isOf 33 = .ok (.ireturn, 1) := by decide +kernel
theorem dX1_isOf_34 : decode cX1_isOf 34 = .ok (.aload_n 0, 1) := by decide +kernel
theorem dX1_isOf_35 : decode cX1_isOf 35 = .ok (.invokevirtual 94, 3) := by decide +kernel
theorem dX1_isOf_38 : decode cX1_isOf 38 = .ok (.ireturn, 1) := by decide +kernel
theorem dX1_isOf_39 : decode cX1_isOf 39 = .ok (.aload_n 0, 1) := by decide +kernel
theorem dX1_isOf_40 : decode cX1_isOf 40 = .ok (.invokevirtual 98, 3) := by decide +kernel
theorem dX1_isOf_43 : decode cX1_isOf 43 = .ok (.ireturn, 1) := by decide +kernel
theorem dX1_isOf_44 : decode cX1_isOf 44 = .ok (.aload_n 0, 1) := by decide +kernel
theorem dX1_isOf_45 : decode cX1_isOf 45 = .ok (.invokevirtual 101, 3) := by decide +kernel
theorem dX1_isOf_48 : decode cX1_isOf 48 = .ok (.ireturn, 1) := by decide +kernel
theorem dX1_isOf_49 : decode cX1_isOf 49 = .ok (.iconst 0, 1) := by decide +kernel
theorem dX1_isOf_50 : decode cX1_isOf 50 = .ok (.ireturn, 1) := by decide +kernel
theorem dX1_toldKind_0 : decode cX1_toldKind 0 = .ok (.aload_n 0, 1) := by decide +kernel
theorem dX1_toldKind_1 : decode cX1_toldKind 1 = .ok (.invokevirtual 101, 3) := by decide +kernel
theorem dX1_toldKind_4 : decode cX1_toldKind 4 = .ok (.ifCond .eq 5, 3) := by decide +kernel
theorem dX1_toldKind_7 : decode cX1_toldKind 7 = .ok (.iconst 3, 1) := by decide +kernel
theorem dX1_toldKind_8 : decode cX1_toldKind 8 = .ok (.ireturn, 1) := by decide +kernel
theorem dX1_toldKind_9 : decode cX1_toldKind 9 = .ok (.aload_n 0, 1) := by decide +kernel
theorem dX1_toldKind_10 : decode cX1_toldKind 10 = .ok (.invokevirtual 98, 3) := by decide +kernel
theorem dX1_toldKind_13 : decode cX1_toldKind 13 = .ok (.ifCond .eq 5, 3) := by decide +kernel
theorem dX1_toldKind_16 : decode cX1_toldKind 16 = .ok (.iconst 2, 1) := by decide +kernel
theorem dX1_toldKind_17 : decode cX1_toldKind 17 = .ok (.ireturn, 1) := by decide +kernel
theorem dX1_toldKind_18 : decode cX1_toldKind 18 = .ok (.aload_n 0, 1) := by decide +kernel
theorem dX1_toldKind_19 : decode cX1_toldKind 19 = .ok (.invokevirtual 94, 3) := by decide +kernel
theorem dX1_toldKind_22 : decode cX1_toldKind 22 = .ok (.ifCond .eq 7, 3) := by decide +kernel
theorem dX1_toldKind_25 : decode cX1_toldKind 25 = .ok (.iconst 1, 1) := by decide +kernel
theorem dX1_toldKind_26 : decode cX1_toldKind 26 = .ok (.goto 4, 3) := by decide +kernel
theorem dX1_toldKind_29 : decode cX1_toldKind 29 = .ok (.iconst 0, 1) := by decide +kernel
theorem dX1_toldKind_30 : decode cX1_toldKind 30 = .ok (.ireturn, 1) := by decide +kernel
theorem dX1_isLeaky_0 : decode cX1_isLeaky 0 = .ok (.aload_n 0, 1) := by decide +kernel
theorem dX1_isLeaky_1 : decode cX1_isLeaky 1 = .ok (.getfield 34, 3) := by decide +kernel
theorem dX1_isLeaky_4 : decode cX1_isLeaky 4 = .ok (.iconst 1, 1) := by decide +kernel
theorem dX1_isLeaky_5 : decode cX1_isLeaky 5 = .ok (.if_icmp .ne 7, 3) := by decide +kernel
theorem dX1_isLeaky_8 : decode cX1_isLeaky 8 = .ok (.iconst 1, 1) := by decide +kernel
theorem dX1_isLeaky_9 : decode cX1_isLeaky 9 = .ok (.goto 4, 3) := by decide +kernel
theorem dX1_isLeaky_12 : decode cX1_isLeaky 12 = .ok (.iconst 0, 1) := by decide +kernel
theorem dX1_isLeaky_13 : decode cX1_isLeaky 13 = .ok (.ireturn, 1) := by decide +kernel
theorem dX1_isSteady_0 : decode cX1_isSteady 0 = .ok (.aload_n 0, 1) := by decide +kernel
theorem dX1_isSteady_1 : decode cX1_isSteady 1 = .ok (.invokevirtual 94, 3) := by decide +kernel
theorem dX1_isSteady_4 : decode cX1_isSteady 4 = .ok (.ifCond .eq 21, 3) := by decide +kernel
theorem dX1_isSteady_7 : decode cX1_isSteady 7 = .ok (.aload_n 0, 1) := by decide +kernel
theorem dX1_isSteady_8 : decode cX1_isSteady 8 = .ok (.getfield 22, 3) := by decide +kernel
theorem dX1_isSteady_11 : decode cX1_isSteady 11 = .ok (.ifCond .ne 14, 3) := by decide +kernel
theorem dX1_isSteady_14 : decode cX1_isSteady 14 = .ok (.aload_n 0, 1) := by decide +kernel
theorem dX1_isSteady_15 : decode cX1_isSteady 15 = .ok (.getfield 28, 3) := by decide +kernel
theorem dX1_isSteady_18 : decode cX1_isSteady 18 = .ok (.ifCond .ne 7, 3) := by decide +kernel
theorem dX1_isSteady_21 : decode cX1_isSteady 21 = .ok (.iconst 1, 1) := by decide +kernel
theorem dX1_isSteady_22 : decode cX1_isSteady 22 = .ok (.goto 4, 3) := by decide +kernel
theorem dX1_isSteady_25 : decode cX1_isSteady 25 = .ok (.iconst 0, 1) := by decide +kernel
theorem dX1_isSteady_26 : decode cX1_isSteady 26 = .ok (.ireturn, 1) := by decide +kernel
theorem dX1_isKnown_0 : decode cX1_isKnown 0 = .ok (.aload_n 0, 1) := by decide +kernel
theorem dX1_isKnown_1 : decode cX1_isKnown 1 = .ok (.getfield 31, 3) := by decide +kernel
theorem dX1_isKnown_4 : decode cX1_isKnown 4 = .ok (.iconst 3, 1) := by decide +kernel
theorem dX1_isKnown_5 : decode cX1_isKnown 5 = .ok (.if_icmp .lt 14, 3) := by decide +kernel
theorem dX1_isKnown_8 : decode cX1_isKnown 8 = .ok (.aload_n 0, 1) := by decide +kernel
theorem dX1_isKnown_9 : decode cX1_isKnown 9 = .ok (.getfield 37, 3) := by decide +kernel
theorem dX1_isKnown_12 : decode cX1_isKnown 12 = .ok (.ifCond .ne 7, 3) := by decide +kernel
theorem dX1_isKnown_15 : decode cX1_isKnown 15 = .ok (.iconst 1, 1) := by decide +kernel
theorem dX1_isKnown_16 : decode cX1_isKnown 16 = .ok (.goto 4, 3) := by decide +kernel
theorem dX1_isKnown_19 : decode cX1_isKnown 19 = .ok (.iconst 0, 1) := by decide +kernel
theorem dX1_isKnown_20 : decode cX1_isKnown 20 = .ok (.ireturn, 1) := by decide +kernel
theorem dX2_init_0 : decode cX2_init 0 = .ok (.aload_n 0, 1) := by decide +kernel
theorem dX2_init_1 : decode cX2_init 1 = .ok (.invokespecial 3, 3) := by decide +kernel
theorem dX2_init_4 : decode cX2_init 4 = .ok (.aload_n 0, 1) := by decide +kernel
theorem dX2_init_5 : decode cX2_init 5 = .ok (.iconst 0, 1) := by decide +kernel
theorem dX2_init_6 : decode cX2_init 6 = .ok (.putfield 9, 3) := by decide +kernel
theorem dX2_init_9 : decode cX2_init 9 = .ok (.aload_n 0, 1) := by decide +kernel
theorem dX2_init_10 : decode cX2_init 10 = .ok (.iconst 0, 1) := by decide +kernel
theorem dX2_init_11 : decode cX2_init 11 = .ok (.putfield 15, 3) := by decide +kernel
theorem dX2_init_14 : decode cX2_init 14 = .ok (.aload_n 0, 1) := by decide +kernel
theorem dX2_init_15 : decode cX2_init 15 = .ok (.iconst 0, 1) := by decide +kernel
theorem dX2_init_16 : decode cX2_init 16 = .ok (.putfield 18, 3) := by decide +kernel
theorem dX2_init_19 : decode cX2_init 19 = .ok (.return_, 1) := by decide +kernel
theorem dX2_become_0 : decode cX2_become 0 = .ok (.aload_n 0, 1) := by decide +kernel
theorem dX2_become_1 : decode cX2_become 1 = .ok (.iload_n 1, 1) := by decide +kernel
theorem dX2_become_2 : decode cX2_become 2 = .ok (.putfield 9, 3) := by decide +kernel
theorem dX2_become_5 : decode cX2_become 5 = .ok (.aload_n 0, 1) := by decide +kernel
theorem dX2_become_6 : decode cX2_become 6 = .ok (.iload_n 2, 1) := by decide +kernel
theorem dX2_become_7 : decode cX2_become 7 = .ok (.putfield 15, 3) := by decide +kernel
theorem dX2_become_10 : decode cX2_become 10 = .ok (.aload_n 0, 1) := by decide +kernel
theorem dX2_become_11 : decode cX2_become 11 = .ok (.iload_n 3, 1) := by decide +kernel
theorem dX2_become_12 : decode cX2_become 12 = .ok (.putfield 18, 3) := by decide +kernel
theorem dX2_become_15 : decode cX2_become 15 = .ok (.return_, 1) := by decide +kernel
theorem dX2_costOf_0 : decode cX2_costOf 0 = .ok (.aload_n 0, 1) := by decide +kernel
theorem dX2_costOf_1 : decode cX2_costOf 1 = .ok (.getfield 9, 3) := by decide +kernel
theorem dX2_costOf_4 : decode cX2_costOf 4 = .ok (.lookupswitch 60 #[(1, 28), (2, 39)], 28) := by decide +kernel
theorem dX2_costOf_32 : decode cX2_costOf 32 = .ok (.iload_n 1, 1) := by decide +kernel
theorem dX2_costOf_33 : decode cX2_costOf 33 = .ok (.iload_n 2, 1) := by decide +kernel
theorem dX2_costOf_34 : decode cX2_costOf 34 = .ok (.aload_n 0, 1) := by decide +kernel
theorem dX2_costOf_35 : decode cX2_costOf 35 = .ok (.getfield 18, 3) := by decide +kernel
theorem dX2_costOf_38 : decode cX2_costOf 38 = .ok (.invokestatic 21, 3) := by decide +kernel
theorem dX2_costOf_41 : decode cX2_costOf 41 = .ok (.imul, 1) := by decide +kernel
theorem dX2_costOf_42 : decode cX2_costOf 42 = .ok (.ireturn, 1) := by decide +kernel
theorem dX2_costOf_43 : decode cX2_costOf 43 = .ok (.aload_n 0, 1) := by decide +kernel
theorem dX2_costOf_44 : decode cX2_costOf 44 = .ok (.iload_n 1, 1) := by decide +kernel
theorem dX2_costOf_45 : decode cX2_costOf 45 = .ok (.invokevirtual 27, 3) := by decide +kernel
theorem dX2_costOf_48 : decode cX2_costOf 48 = .ok (.aload_n 0, 1) := by decide +kernel
theorem dX2_costOf_49 : decode cX2_costOf 49 = .ok (.getfield 18, 3) := by decide +kernel
theorem dX2_costOf_52 : decode cX2_costOf 52 = .ok (.imul, 1) := by decide +kernel
theorem dX2_costOf_53 : decode cX2_costOf 53 = .ok (.iload_n 1, 1) := by decide +kernel
theorem dX2_costOf_54 : decode cX2_costOf 54 = .ok (.aload_n 0, 1) := by decide +kernel
theorem dX2_costOf_55 : decode cX2_costOf 55 = .ok (.iload_n 1, 1) := by decide +kernel
theorem dX2_costOf_56 : decode cX2_costOf 56 = .ok (.invokevirtual 27, 3) := by decide +kernel
theorem dX2_costOf_59 : decode cX2_costOf 59 = .ok (.isub, 1) := by decide +kernel
theorem dX2_costOf_60 : decode cX2_costOf 60 = .ok (.iload_n 2, 1) := by decide +kernel
theorem dX2_costOf_61 : decode cX2_costOf 61 = .ok (.imul, 1) := by decide +kernel
theorem dX2_costOf_62 : decode cX2_costOf 62 = .ok (.iadd, 1) := by decide +kernel
theorem dX2_costOf_63 : decode cX2_costOf 63 = .ok (.ireturn, 1) := by decide +kernel
theorem dX2_costOf_64 : decode cX2_costOf 64 = .ok (.iload_n 1, 1) := by decide +kernel
theorem dX2_costOf_65 : decode cX2_costOf 65 = .ok (.iload_n 2, 1) := by decide +kernel
theorem dX2_costOf_66 : decode cX2_costOf 66 = .ok (.imul, 1) := by decide +kernel
theorem dX2_costOf_67 : decode cX2_costOf 67 = .ok (.ireturn, 1) := by decide +kernel
theorem dX2_useUp_0 : decode cX2_useUp 0 = .ok (.aload_n 0, 1) := by decide +kernel
theorem dX2_useUp_1 : decode cX2_useUp 1 = .ok (.dup, 1) := by decide +kernel
theorem dX2_useUp_2 : decode cX2_useUp 2 = .ok (.getfield 15, 3) := by decide +kernel
theorem dX2_useUp_5 : decode cX2_useUp 5 = .ok (.aload_n 0, 1) := by decide +kernel
theorem dX2_useUp_6 : decode cX2_useUp 6 = .ok (.iload_n 1, 1) := by decide +kernel
theorem dX2_useUp_7 : decode cX2_useUp 7 = .ok (.invokevirtual 27, 3) := by decide +kernel
theorem dX2_useUp_10 : decode cX2_useUp 10 = .ok (.isub, 1) := by decide +kernel
theorem dX2_useUp_11 : decode cX2_useUp 11 = .ok (.putfield 15, 3) := by decide +kernel
theorem dX2_useUp_14 : decode cX2_useUp 14 = .ok (.return_, 1) := by decide +kernel
theorem dX2_ahead_0 : decode cX2_ahead 0 = .ok (.iload_n 1, 1) := by decide +kernel
theorem dX2_ahead_1 : decode cX2_ahead 1 = .ok (.aload_n 0, 1) := by decide +kernel
theorem dX2_ahead_2 : decode cX2_ahead 2 = .ok (.getfield 15, 3) := by decide +kernel
theorem dX2_ahead_5 : decode cX2_ahead 5 = .ok (.invokestatic 21, 3) := by decide +kernel
theorem dX2_ahead_8 : decode cX2_ahead 8 = .ok (.ireturn, 1) := by decide +kernel
end
section
theorem dX3_init_0 : decode cX3_init 0 = .ok (.aload_n 0, 1) := by decide +kernel
theorem dX3_init_1 : decode cX3_init 1 = .ok (.invokespecial 3, 3) := by decide +kernel
theorem dX3_init_4 : decode cX3_init 4 = .ok (.aload_n 0, 1) := by decide +kernel
theorem dX3_init_5 : decode cX3_init 5 = .ok (.sipush 300, 3) := by decide +kernel
theorem dX3_init_8 : decode cX3_init 8 = .ok (.newarray .byte, 2) := by decide +kernel
theorem dX3_init_10 : decode cX3_init 10 = .ok (.putfield 11, 3) := by decide +kernel
theorem dX3_init_13 : decode cX3_init 13 = .ok (.aload_n 0, 1) := by decide +kernel
theorem dX3_init_14 : decode cX3_init 14 = .ok (.iconst 0, 1) := by decide +kernel
theorem dX3_init_15 : decode cX3_init 15 = .ok (.putfield 15, 3) := by decide +kernel
theorem dX3_init_18 : decode cX3_init 18 = .ok (.aload_n 0, 1) := by decide +kernel
theorem dX3_init_19 : decode cX3_init 19 = .ok (.iconst 0, 1) := by decide +kernel
theorem dX3_init_20 : decode cX3_init 20 = .ok (.putfield 19, 3) := by decide +kernel
theorem dX3_init_23 : decode cX3_init 23 = .ok (.aload_n 0, 1) := by decide +kernel
theorem dX3_init_24 : decode cX3_init 24 = .ok (.iconst 0, 1) := by decide +kernel
theorem dX3_init_25 : decode cX3_init 25 = .ok (.putfield 22, 3) := by decide +kernel
theorem dX3_init_28 : decode cX3_init 28 = .ok (.aload_n 0, 1) := by decide +kernel
theorem dX3_init_29 : decode cX3_init 29 = .ok (.iconst 0, 1) := by decide +kernel
theorem dX3_init_30 : decode cX3_init 30 = .ok (.putfield 25, 3) := by decide +kernel
theorem dX3_init_33 : decode cX3_init 33 = .ok (.aload_n 0, 1) := by decide +kernel
theorem dX3_init_34 : decode cX3_init 34 = .ok (.iconst 0, 1) := by decide +kernel
theorem dX3_init_35 : decode cX3_init 35 = .ok (.putfield 28, 3) := by decide +kernel
theorem dX3_init_38 : decode cX3_init 38 = .ok (.aload_n 0, 1) := by decide +kernel
theorem dX3_init_39 : decode cX3_init 39 = .ok (.iconst 0, 1) := by decide +kernel
theorem dX3_init_40 : decode cX3_init 40 = .ok (.putfield 31, 3) := by decide +kernel
theorem dX3_init_43 : decode cX3_init 43 = .ok (.aload_n 0, 1) := by decide +kernel
theorem dX3_init_44 : decode cX3_init 44 = .ok (.iconst 0, 1) := by decide +kernel
theorem dX3_init_45 : decode cX3_init 45 = .ok (.putfield 34, 3) := by decide +kernel
theorem dX3_init_48 : decode cX3_init 48 = .ok (.aload_n 0, 1) := by decide +kernel
theorem dX3_init_49 : decode cX3_init 49 = .ok (.aconst_null, 1) := by decide +kernel
theorem dX3_init_50 : decode cX3_init 50 = .ok (.putfield 37, 3) := by decide +kernel
theorem dX3_init_53 : decode cX3_init 53 = .ok (.aload_n 0, 1) := by decide +kernel
theorem dX3_init_54 : decode cX3_init 54 = .ok (.iconst 0, 1) := by decide +kernel
theorem dX3_init_55 : decode cX3_init 55 = .ok (.putfield 41, 3) := by decide +kernel
theorem dX3_init_58 : decode cX3_init 58 = .ok (.aload_n 0, 1) := by decide +kernel
theorem dX3_init_59 : decode cX3_init 59 = .ok (.iconst 0, 1) := by decide +kernel
theorem dX3_init_60 : decode cX3_init 60 = .ok (.putfield 44, 3) := by decide +kernel
theorem dX3_init_63 : decode cX3_init 63 = .ok (.aload_n 0, 1) := by decide +kernel
theorem dX3_init_64 : decode cX3_init 64 = .ok (.iconst 0, 1) := by decide +kernel
theorem dX3_init_65 : decode cX3_init 65 = .ok (.putfield 47, 3) := by decide +kernel
theorem dX3_init_68 : decode cX3_init 68 = .ok (.return_, 1) := by decide +kernel
theorem dX3_append_0 : decode cX3_append 0 = .ok (.iload_n 3, 1) := by decide +kernel
theorem dX3_append_1 : decode cX3_append 1 = .ok (.aload_n 0, 1) := by decide +kernel
theorem dX3_append_2 : decode cX3_append 2 = .ok (.getfield 11, 3) := by decide +kernel
theorem dX3_append_5 : decode cX3_append 5 = .ok (.arraylength, 1) := by decide +kernel
theorem dX3_append_6 : decode cX3_append 6 = .ok (.aload_n 0, 1) := by decide +kernel
theorem dX3_append_7 : decode cX3_append 7 = .ok (.getfield 15, 3) := by decide +kernel
theorem dX3_append_10 : decode cX3_append 10 = .ok (.isub, 1) := by decide +kernel
theorem dX3_append_11 : decode cX3_append 11 = .ok (.if_icmp .le 6, 3) := by decide +kernel
theorem dX3_append_14 : decode cX3_append 14 = .ok (.ldc 50, 2) := by decide +kernel
theorem dX3_append_16 : decode cX3_append 16 = .ok (.ireturn, 1) := by decide +kernel
theorem dX3_append_17 : decode cX3_append 17 = .ok (.iload_n 3, 1) := by decide +kernel
theorem dX3_append_18 : decode cX3_append 18 = .ok (.iconst 1, 1) := by decide +kernel
theorem dX3_append_19 : decode cX3_append 19 = .ok (.isub, 1) := by decide +kernel
theorem dX3_append_20 : decode cX3_append 20 = .ok (.istore 4, 2) := by decide +kernel
theorem dX3_append_22 : decode cX3_append 22 = .ok (.iload 4, 2) := by decide +kernel
theorem dX3_append_24 : decode cX3_append 24 = .ok (.ifCond .lt 59, 3) := by decide +kernel
theorem dX3_append_27 : decode cX3_append 27 = .ok (.aload_n 0, 1) := by decide +kernel
theorem dX3_append_28 : decode cX3_append 28 = .ok (.getfield 15, 3) := by decide +kernel
theorem dX3_append_31 : decode cX3_append 31 = .ok (.ifCond .lt 15, 3) := by decide +kernel
theorem dX3_append_34 : decode cX3_append 34 = .ok (.aload_n 0, 1) := by decide +kernel
theorem dX3_append_35 : decode cX3_append 35 = .ok (.getfield 15, 3) := by decide +kernel
theorem dX3_append_38 : decode cX3_append 38 = .ok (.aload_n 0, 1) := by decide +kernel
theorem dX3_append_39 : decode cX3_append 39 = .ok (.getfield 11, 3) := by decide +kernel
theorem dX3_append_42 : decode cX3_append 42 = .ok (.arraylength, 1) := by decide +kernel
theorem dX3_append_43 : decode cX3_append 43 = .ok (.if_icmp .lt 6, 3) := by decide +kernel
theorem dX3_append_46 : decode cX3_append 46 = .ok (.ldc 50, 2) := by decide +kernel
theorem dX3_append_48 : decode cX3_append 48 = .ok (.ireturn, 1) := by decide +kernel
theorem dX3_append_49 : decode cX3_append 49 = .ok (.aload_n 0, 1) := by decide +kernel
theorem dX3_append_50 : decode cX3_append 50 = .ok (.getfield 11, 3) := by decide +kernel
theorem dX3_append_53 : decode cX3_append 53 = .ok (.aload_n 0, 1) := by decide +kernel
theorem dX3_append_54 : decode cX3_append 54 = .ok (.getfield 15, 3) := by decide +kernel
theorem dX3_append_57 : decode cX3_append 57 = .ok (.lload_n 1, 1) := by decide +kernel
theorem dX3_append_58 : decode cX3_append 58 = .ok (.bipush 8, 2) := by decide +kernel
theorem dX3_append_60 : decode cX3_append 60 = .ok (.iload 4, 2) := by decide +kernel
theorem dX3_append_62 : decode cX3_append 62 = .ok (.imul, 1) := by decide +kernel
theorem dX3_append_63 : decode cX3_append 63 = .ok (.lshr, 1) := by decide +kernel
theorem dX3_append_64 : decode cX3_append 64 = .ok (.l2i, 1) := by decide +kernel
theorem dX3_append_65 : decode cX3_append 65 = .ok (.i2b, 1) := by decide +kernel
theorem dX3_append_66 : decode cX3_append 66 = .ok (.bastore, 1) := by decide +kernel
theorem dX3_append_67 : decode cX3_append 67 = .ok (.aload_n 0, 1) := by decide +kernel
theorem dX3_append_68 : decode cX3_append 68 = .ok (.dup, 1) := by decide +kernel
theorem dX3_append_69 : decode cX3_append 69 = .ok (.getfield 15, 3) := by decide +kernel
theorem dX3_append_72 : decode cX3_append 72 = .ok (.iconst 1, 1) := by decide +kernel
theorem dX3_append_73 : decode cX3_append 73 = .ok (.iadd, 1) := by decide +kernel
theorem dX3_append_74 : decode cX3_append 74 = .ok (.putfield 15, 3) := by decide +kernel
theorem dX3_append_77 : decode cX3_append 77 = .ok (.iinc 4 (-1), 3) := by decide +kernel
theorem dX3_append_80 : decode cX3_append 80 = .ok (.goto (-58), 3) := by decide +kernel
theorem dX3_append_83 : decode cX3_append 83 = .ok (.aload_n 0, 1) := by decide +kernel
theorem dX3_append_84 : decode cX3_append 84 = .ok (.getfield 15, 3) := by decide +kernel
theorem dX3_append_87 : decode cX3_append 87 = .ok (.ireturn, 1) := by decide +kernel
theorem dX3_readAll_0 : decode cX3_readAll 0 = .ok (.aload_n 0, 1) := by decide +kernel
theorem dX3_readAll_1 : decode cX3_readAll 1 = .ok (.aload_n 1, 1) := by decide +kernel
theorem dX3_readAll_2 : decode cX3_readAll 2 = .ok (.iconst 0, 1) := by decide +kernel
theorem dX3_readAll_3 : decode cX3_readAll 3 = .ok (.invokevirtual 51, 3) := by decide +kernel
theorem dX3_readAll_6 : decode cX3_readAll 6 = .ok (.istore_n 2, 1) := by decide +kernel
theorem dX3_readAll_7 : decode cX3_readAll 7 = .ok (.iload_n 2, 1) := by decide +kernel
theorem dX3_readAll_8 : decode cX3_readAll 8 = .ok (.ifCond .lt 10, 3) := by decide +kernel
theorem dX3_readAll_11 : decode cX3_readAll 11 = .ok (.aload_n 0, 1) := by decide +kernel
theorem dX3_readAll_12 : decode cX3_readAll 12 = .ok (.aload_n 1, 1) := by decide +kernel
theorem dX3_readAll_13 : decode cX3_readAll 13 = .ok (.iconst 1, 1) := by decide +kernel
theorem dX3_readAll_14 : decode cX3_readAll 14 = .ok (.invokevirtual 51, 3) := by decide +kernel
theorem dX3_readAll_17 : decode cX3_readAll 17 = .ok (.pop, 1) := by decide +kernel
theorem dX3_readAll_18 : decode cX3_readAll 18 = .ok (.aload_n 0, 1) := by decide +kernel
theorem dX3_readAll_19 : decode cX3_readAll 19 = .ok (.iconst 0, 1) := by decide +kernel
theorem dX3_readAll_20 : decode cX3_readAll 20 = .ok (.putfield 15, 3) := by decide +kernel
theorem dX3_readAll_23 : decode cX3_readAll 23 = .ok (.aload_n 0, 1) := by decide +kernel
theorem dX3_readAll_24 : decode cX3_readAll 24 = .ok (.aconst_null, 1) := by decide +kernel
theorem dX3_readAll_25 : decode cX3_readAll 25 = .ok (.putfield 37, 3) := by decide +kernel
theorem dX3_readAll_28 : decode cX3_readAll 28 = .ok (.iload_n 2, 1) := by decide +kernel
theorem dX3_readAll_29 : decode cX3_readAll 29 = .ok (.ireturn, 1) := by decide +kernel
theorem dX3_readOnce_0 : decode cX3_readOnce 0 = .ok (.aload_n 0, 1) := by decide +kernel
theorem dX3_readOnce_1 : decode cX3_readOnce 1 = .ok (.iconst 0, 1) := by decide +kernel
theorem dX3_readOnce_2 : decode cX3_readOnce 2 = .ok (.putfield 22, 3) := by decide +kernel
theorem dX3_readOnce_5 : decode cX3_readOnce 5 = .ok (.aload_n 0, 1) := by decide +kernel
theorem dX3_readOnce_6 : decode cX3_readOnce 6 = .ok (.iconst 0, 1) := by decide +kernel
theorem dX3_readOnce_7 : decode cX3_readOnce 7 = .ok (.putfield 34, 3) := by decide +kernel
theorem dX3_readOnce_10 : decode cX3_readOnce 10 = .ok (.iconst 0, 1) := by decide +kernel
theorem dX3_readOnce_11 : decode cX3_readOnce 11 = .ok (.istore_n 3, 1) := by decide +kernel
theorem dX3_readOnce_12 : decode cX3_readOnce 12 = .ok (.iconst 0, 1) := by decide +kernel
theorem dX3_readOnce_13 : decode cX3_readOnce 13 = .ok (.istore 4, 2) := by decide +kernel
theorem dX3_readOnce_15 : decode cX3_readOnce 15 = .ok (.iload 4, 2) := by decide +kernel
theorem dX3_readOnce_17 : decode cX3_readOnce 17 = .ok (.sipush 300, 3) := by decide +kernel
theorem dX3_readOnce_20 : decode cX3_readOnce 20 = .ok (.if_icmp .gt 104, 3) := by decide +kernel
theorem dX3_readOnce_23 : decode cX3_readOnce 23 = .ok (.aload_n 0, 1) := by decide +kernel
theorem dX3_readOnce_24 : decode cX3_readOnce 24 = .ok (.invokevirtual 55, 3) := by decide +kernel
theorem dX3_readOnce_27 : decode cX3_readOnce 27 = .ok (.aload_n 0, 1) := by decide +kernel
theorem dX3_readOnce_28 : decode cX3_readOnce 28 = .ok (.getfield 25, 3) := by decide +kernel
theorem dX3_readOnce_31 : decode cX3_readOnce 31 = .ok (.ifCond .ne 13, 3) := by decide +kernel
theorem dX3_readOnce_34 : decode cX3_readOnce 34 = .ok (.aload_n 0, 1) := by decide +kernel
theorem dX3_readOnce_35 : decode cX3_readOnce 35 = .ok (.getfield 34, 3) := by decide +kernel
theorem dX3_readOnce_38 : decode cX3_readOnce 38 = .ok (.ifCond .ne 6, 3) := by decide +kernel
theorem dX3_readOnce_41 : decode cX3_readOnce 41 = .ok (.goto 83, 3) := by decide +kernel
theorem dX3_readOnce_44 : decode cX3_readOnce 44 = .ok (.aload_n 0, 1) := by decide +kernel
theorem dX3_readOnce_45 : decode cX3_readOnce 45 = .ok (.aload_n 1, 1) := by decide +kernel
theorem dX3_readOnce_46 : decode cX3_readOnce 46 = .ok (.invokevirtual 58, 3) := by decide +kernel
theorem dX3_readOnce_49 : decode cX3_readOnce 49 = .ok (.istore 5, 2) := by decide +kernel
theorem dX3_readOnce_51 : decode cX3_readOnce 51 = .ok (.iload 5, 2) := by decide +kernel
theorem dX3_readOnce_53 : decode cX3_readOnce 53 = .ok (.ifCond .eq 17, 3) := by decide +kernel
theorem dX3_readOnce_56 : decode cX3_readOnce 56 = .ok (.aload_n 0, 1) := by decide +kernel
theorem dX3_readOnce_57 : decode cX3_readOnce 57 = .ok (.iload 5, 2) := by decide +kernel
theorem dX3_readOnce_59 : decode cX3_readOnce 59 = .ok (.putfield 19, 3) := by decide +kernel
theorem dX3_readOnce_62 : decode cX3_readOnce 62 = .ok (.ldc 62, 2) := by decide +kernel
theorem dX3_readOnce_64 : decode cX3_readOnce 64 = .ok (.aload_n 0, 1) := by decide +kernel
theorem dX3_readOnce_65 : decode cX3_readOnce 65 = .ok (.getfield 28, 3) := by decide +kernel
theorem dX3_readOnce_68 : decode cX3_readOnce 68 = .ok (.isub, 1) := by decide +kernel
theorem dX3_readOnce_69 : decode cX3_readOnce 69 = .ok (.ireturn, 1) := by decide +kernel
theorem dX3_readOnce_70 : decode cX3_readOnce 70 = .ok (.aload_n 0, 1) := by decide +kernel
theorem dX3_readOnce_71 : decode cX3_readOnce 71 = .ok (.getfield 25, 3) := by decide +kernel
theorem dX3_readOnce_74 : decode cX3_readOnce 74 = .ok (.bipush 6, 2) := by decide +kernel
theorem dX3_readOnce_76 : decode cX3_readOnce 76 = .ok (.if_icmp .eq 6, 3) := by decide +kernel
theorem dX3_readOnce_79 : decode cX3_readOnce 79 = .ok (.goto 39, 3) := by decide +kernel
theorem dX3_readOnce_82 : decode cX3_readOnce 82 = .ok (.iinc 3 1, 3) := by decide +kernel
theorem dX3_readOnce_85 : decode cX3_readOnce 85 = .ok (.iload_n 2, 1) := by decide +kernel
theorem dX3_readOnce_86 : decode cX3_readOnce 86 = .ok (.ifCond .eq 32, 3) := by decide +kernel
theorem dX3_readOnce_89 : decode cX3_readOnce 89 = .ok (.aload_n 0, 1) := by decide +kernel
theorem dX3_readOnce_90 : decode cX3_readOnce 90 = .ok (.getfield 37, 3) := by decide +kernel
theorem dX3_readOnce_93 : decode cX3_readOnce 93 = .ok (.ifnull 25, 3) := by decide +kernel
theorem dX3_readOnce_96 : decode cX3_readOnce 96 = .ok (.aload_n 0, 1) := by decide +kernel
theorem dX3_readOnce_97 : decode cX3_readOnce 97 = .ok (.getfield 37, 3) := by decide +kernel
theorem dX3_readOnce_100 : decode cX3_readOnce 100 = .ok (.getfield 63, 3) := by decide +kernel
theorem dX3_readOnce_103 : decode cX3_readOnce 103 = .ok (.aload_n 0, 1) := by decide +kernel
theorem dX3_readOnce_104 : decode cX3_readOnce 104 = .ok (.getfield 41, 3) := by decide +kernel
theorem dX3_readOnce_107 : decode cX3_readOnce 107 = .ok (.aload_n 0, 1) := by decide +kernel
theorem dX3_readOnce_108 : decode cX3_readOnce 108 = .ok (.getfield 44, 3) := by decide +kernel
theorem dX3_readOnce_111 : decode cX3_readOnce 111 = .ok (.aload_n 0, 1) := by decide +kernel
theorem dX3_readOnce_112 : decode cX3_readOnce 112 = .ok (.getfield 47, 3) := by decide +kernel
theorem dX3_readOnce_115 : decode cX3_readOnce 115 = .ok (.invokevirtual 69, 3) := by decide +kernel
theorem dX3_readOnce_118 : decode cX3_readOnce 118 = .ok (.iinc 4 1, 3) := by decide +kernel
theorem dX3_readOnce_121 : decode cX3_readOnce 121 = .ok (.goto (-106), 3) := by decide +kernel
theorem dX3_readOnce_124 : decode cX3_readOnce 124 = .ok (.iload_n 3, 1) := by decide +kernel
theorem dX3_readOnce_125 : decode cX3_readOnce 125 = .ok (.ireturn, 1) := by decide +kernel
theorem dX3_takeToken_0 : decode cX3_takeToken 0 = .ok (.aload_n 0, 1) := by decide +kernel
theorem dX3_takeToken_1 : decode cX3_takeToken 1 = .ok (.invokevirtual 75, 3) := by decide +kernel
theorem dX3_takeToken_4 : decode cX3_takeToken 4 = .ok (.ifCond .ne 5, 3) := by decide +kernel
theorem dX3_takeToken_7 : decode cX3_takeToken 7 = .ok (.iconst 1, 1) := by decide +kernel
theorem dX3_takeToken_8 : decode cX3_takeToken 8 = .ok (.ireturn, 1) := by decide +kernel
theorem dX3_takeToken_9 : decode cX3_takeToken 9 = .ok (.aload_n 0, 1) := by decide +kernel
theorem dX3_takeToken_10 : decode cX3_takeToken 10 = .ok (.getfield 34, 3) := by decide +kernel
theorem dX3_takeToken_13 : decode cX3_takeToken 13 = .ok (.tableswitch 130 0 5 #[39, 56, 86, 92, 107, 114], 39) := by decide +kernel
theorem dX3_takeToken_52 : decode cX3_takeToken 52 = .ok (.aload_n 0, 1) := by decide +kernel
theorem dX3_takeToken_53 : decode cX3_takeToken 53 = .ok (.iconst 0, 1) := by decide +kernel
theorem dX3_takeToken_54 : decode cX3_takeToken 54 = .ok (.putfield 44, 3) := by decide +kernel
theorem dX3_takeToken_57 : decode cX3_takeToken 57 = .ok (.aload_n 0, 1) := by decide +kernel
theorem dX3_takeToken_58 : decode cX3_takeToken 58 = .ok (.iconst 0, 1) := by decide +kernel
theorem dX3_takeToken_59 : decode cX3_takeToken 59 = .ok (.putfield 47, 3) := by decide +kernel
theorem dX3_takeToken_62 : decode cX3_takeToken 62 = .ok (.aload_n 0, 1) := by decide +kernel
theorem dX3_takeToken_63 : decode cX3_takeToken 63 = .ok (.iconst 1, 1) := by decide +kernel
theorem dX3_takeToken_64 : decode cX3_takeToken 64 = .ok (.putfield 34, 3) := by decide +kernel
theorem dX3_takeToken_67 : decode cX3_takeToken 67 = .ok (.iconst 0, 1) := by decide +kernel
theorem dX3_takeToken_68 : decode cX3_takeToken 68 = .ok (.ireturn, 1) := by decide +kernel
theorem dX3_takeToken_69 : decode cX3_takeToken 69 = .ok (.aload_n 0, 1) := by decide +kernel
theorem dX3_takeToken_70 : decode cX3_takeToken 70 = .ok (.aload_n 1, 1) := by decide +kernel
theorem dX3_takeToken_71 : decode cX3_takeToken 71 = .ok (.aload_n 0, 1) := by decide +kernel
theorem dX3_takeToken_72 : decode cX3_takeToken 72 = .ok (.getfield 31, 3) := by decide +kernel
theorem dX3_takeToken_75 : decode cX3_takeToken 75 = .ok (.invokestatic 79, 3) := by decide +kernel
theorem dX3_takeToken_78 : decode cX3_takeToken 78 = .ok (.putfield 37, 3) := by decide +kernel
theorem dX3_takeToken_81 : decode cX3_takeToken 81 = .ok (.aload_n 0, 1) := by decide +kernel
theorem dX3_takeToken_82 : decode cX3_takeToken 82 = .ok (.iconst 2, 1) := by decide +kernel
theorem dX3_takeToken_83 : decode cX3_takeToken 83 = .ok (.putfield 34, 3) := by decide +kernel
theorem dX3_takeToken_86 : decode cX3_takeToken 86 = .ok (.aload_n 0, 1) := by decide +kernel
theorem dX3_takeToken_87 : decode cX3_takeToken 87 = .ok (.getfield 37, 3) := by decide +kernel
theorem dX3_takeToken_90 : decode cX3_takeToken 90 = .ok (.ifnonnull 7, 3) := by decide +kernel
theorem dX3_takeToken_93 : decode cX3_takeToken 93 = .ok (.iconst 2, 1) := by decide +kernel
theorem dX3_takeToken_94 : decode cX3_takeToken 94 = .ok (.goto 4, 3) := by decide +kernel
theorem dX3_takeToken_97 : decode cX3_takeToken 97 = .ok (.iconst 0, 1) := by decide +kernel
theorem dX3_takeToken_98 : decode cX3_takeToken 98 = .ok (.ireturn, 1) := by decide +kernel
theorem dX3_takeToken_99 : decode cX3_takeToken 99 = .ok (.aload_n 0, 1) := by decide +kernel
theorem dX3_takeToken_100 : decode cX3_takeToken 100 = .ok (.invokevirtual 83, 3) := by decide +kernel
theorem dX3_takeToken_103 : decode cX3_takeToken 103 = .ok (.iconst 0, 1) := by decide +kernel
theorem dX3_takeToken_104 : decode cX3_takeToken 104 = .ok (.ireturn, 1) := by decide +kernel
theorem dX3_takeToken_105 : decode cX3_takeToken 105 = .ok (.aload_n 0, 1) := by decide +kernel
theorem dX3_takeToken_106 : decode cX3_takeToken 106 = .ok (.aload_n 0, 1) := by decide +kernel
theorem dX3_takeToken_107 : decode cX3_takeToken 107 = .ok (.getfield 31, 3) := by decide +kernel
theorem dX3_takeToken_110 : decode cX3_takeToken 110 = .ok (.putfield 44, 3) := by decide +kernel
theorem dX3_takeToken_113 : decode cX3_takeToken 113 = .ok (.aload_n 0, 1) := by decide +kernel
theorem dX3_takeToken_114 : decode cX3_takeToken 114 = .ok (.iconst 4, 1) := by decide +kernel
theorem dX3_takeToken_115 : decode cX3_takeToken 115 = .ok (.putfield 34, 3) := by decide +kernel
theorem dX3_takeToken_118 : decode cX3_takeToken 118 = .ok (.iconst 0, 1) := by decide +kernel
theorem dX3_takeToken_119 : decode cX3_takeToken 119 = .ok (.ireturn, 1) := by decide +kernel
theorem dX3_takeToken_120 : decode cX3_takeToken 120 = .ok (.aload_n 0, 1) := by decide +kernel
theorem dX3_takeToken_121 : decode cX3_takeToken 121 = .ok (.iconst 5, 1) := by decide +kernel
theorem dX3_takeToken_122 : decode cX3_takeToken 122 = .ok (.putfield 34, 3) := by decide +kernel
theorem dX3_takeToken_125 : decode cX3_takeToken 125 = .ok (.iconst 0, 1) := by decide +kernel
theorem dX3_takeToken_126 : decode cX3_takeToken 126 = .ok (.ireturn, 1) := by decide +kernel
theorem dX3_takeToken_127 : decode cX3_takeToken 127 = .ok (.aload_n 0, 1) := by decide +kernel
theorem dX3_takeToken_128 : decode cX3_takeToken 128 = .ok (.aload_n 0, 1) := by decide +kernel
theorem dX3_takeToken_129 : decode cX3_takeToken 129 = .ok (.getfield 31, 3) := by decide +kernel
theorem dX3_takeToken_132 : decode cX3_takeToken 132 = .ok (.putfield 47, 3) := by decide +kernel
theorem dX3_takeToken_135 : decode cX3_takeToken 135 = .ok (.aload_n 0, 1) := by decide +kernel
theorem dX3_takeToken_136 : decode cX3_takeToken 136 = .ok (.bipush 6, 2) := by decide +kernel
theorem dX3_takeToken_138 : decode cX3_takeToken 138 = .ok (.putfield 34, 3) := by decide +kernel
theorem dX3_takeToken_141 : decode cX3_takeToken 141 = .ok (.iconst 0, 1) := by decide +kernel
theorem dX3_takeToken_142 : decode cX3_takeToken 142 = .ok (.ireturn, 1) := by decide +kernel
theorem dX3_takeToken_143 : decode cX3_takeToken 143 = .ok (.aload_n 0, 1) := by decide +kernel
theorem dX3_takeToken_144 : decode cX3_takeToken 144 = .ok (.iconst 0, 1) := by decide +kernel
theorem dX3_takeToken_145 : decode cX3_takeToken 145 = .ok (.putfield 34, 3) := by decide +kernel
theorem dX3_takeToken_148 : decode cX3_takeToken 148 = .ok (.iconst 0, 1) := by decide +kernel
theorem dX3_takeToken_149 : decode cX3_takeToken 149 = .ok (.ireturn, 1) := by decide +kernel
theorem dX3_canStandHere_0 : decode cX3_canStandHere 0 = .ok (.aload_n 0, 1) := by decide +kernel
theorem dX3_canStandHere_1 : decode cX3_canStandHere 1 = .ok (.getfield 34, 3) := by decide +kernel
theorem dX3_canStandHere_4 : decode cX3_canStandHere 4 = .ok (.tableswitch 113 0 5 #[40, 84, 54, 84, 98, 84], 40) := by decide +kernel
theorem dX3_canStandHere_44 : decode cX3_canStandHere 44 = .ok (.aload_n 0, 1) := by decide +kernel
theorem dX3_canStandHere_45 : decode cX3_canStandHere 45 = .ok (.getfield 25, 3) := by decide +kernel
theorem dX3_canStandHere_48 : decode cX3_canStandHere 48 = .ok (.iconst 1, 1) := by decide +kernel
theorem dX3_canStandHere_49 : decode cX3_canStandHere 49 = .ok (.if_icmp .ne 7, 3) := by decide +kernel
theorem dX3_canStandHere_52 : decode cX3_canStandHere 52 = .ok (.iconst 1, 1) := by decide +kernel
theorem dX3_canStandHere_53 : decode cX3_canStandHere 53 = .ok (.goto 4, 3) := by decide +kernel
theorem dX3_canStandHere_56 : decode cX3_canStandHere 56 = .ok (.iconst 0, 1) := by decide +kernel
theorem dX3_canStandHere_57 : decode cX3_canStandHere 57 = .ok (.ireturn, 1) := by decide +kernel
theorem dX3_canStandHere_58 : decode cX3_canStandHere 58 = .ok (.aload_n 0, 1) := by decide +kernel
theorem dX3_canStandHere_59 : decode cX3_canStandHere 59 = .ok (.getfield 25, 3) := by decide +kernel
theorem dX3_canStandHere_62 : decode cX3_canStandHere 62 = .ok (.iconst 2, 1) := by decide +kernel
theorem dX3_canStandHere_63 : decode cX3_canStandHere 63 = .ok (.if_icmp .eq 19, 3) := by decide +kernel
theorem dX3_canStandHere_66 : decode cX3_canStandHere 66 = .ok (.aload_n 0, 1) := by decide +kernel
theorem dX3_canStandHere_67 : decode cX3_canStandHere 67 = .ok (.getfield 25, 3) := by decide +kernel
theorem dX3_canStandHere_70 : decode cX3_canStandHere 70 = .ok (.iconst 3, 1) := by decide +kernel
theorem dX3_canStandHere_71 : decode cX3_canStandHere 71 = .ok (.if_icmp .eq 11, 3) := by decide +kernel
theorem dX3_canStandHere_74 : decode cX3_canStandHere 74 = .ok (.aload_n 0, 1) := by decide +kernel
theorem dX3_canStandHere_75 : decode cX3_canStandHere 75 = .ok (.getfield 25, 3) := by decide +kernel
theorem dX3_canStandHere_78 : decode cX3_canStandHere 78 = .ok (.iconst 4, 1) := by decide +kernel
theorem dX3_canStandHere_79 : decode cX3_canStandHere 79 = .ok (.if_icmp .ne 7, 3) := by decide +kernel
theorem dX3_canStandHere_82 : decode cX3_canStandHere 82 = .ok (.iconst 1, 1) := by decide +kernel
theorem dX3_canStandHere_83 : decode cX3_canStandHere 83 = .ok (.goto 4, 3) := by decide +kernel
theorem dX3_canStandHere_86 : decode cX3_canStandHere 86 = .ok (.iconst 0, 1) := by decide +kernel
theorem dX3_canStandHere_87 : decode cX3_canStandHere 87 = .ok (.ireturn, 1) := by decide +kernel
theorem dX3_canStandHere_88 : decode cX3_canStandHere 88 = .ok (.aload_n 0, 1) := by decide +kernel
theorem dX3_canStandHere_89 : decode cX3_canStandHere 89 = .ok (.getfield 25, 3) := by decide +kernel
theorem dX3_canStandHere_92 : decode cX3_canStandHere 92 = .ok (.iconst 5, 1) := by decide +kernel
theorem dX3_canStandHere_93 : decode cX3_canStandHere 93 = .ok (.if_icmp .ne 7, 3) := by decide +kernel
theorem dX3_canStandHere_96 : decode cX3_canStandHere 96 = .ok (.iconst 1, 1) := by decide +kernel
theorem dX3_canStandHere_97 : decode cX3_canStandHere 97 = .ok (.goto 4, 3) := by decide +kernel
theorem dX3_canStandHere_100 : decode cX3_canStandHere 100 = .ok (.iconst 0, 1) := by decide +kernel
theorem dX3_canStandHere_101 : decode cX3_canStandHere 101 = .ok (.ireturn, 1) := by decide +kernel
theorem dX3_canStandHere_102 : decode cX3_canStandHere 102 = .ok (.aload_n 0, 1) := by decide +kernel
theorem dX3_canStandHere_103 : decode cX3_canStandHere 103 = .ok (.getfield 25, 3) := by decide +kernel
theorem dX3_canStandHere_106 : decode cX3_canStandHere 106 = .ok (.bipush 7, 2) := by decide +kernel
theorem dX3_canStandHere_108 : decode cX3_canStandHere 108 = .ok (.if_icmp .ne 7, 3) := by decide +kernel
theorem dX3_canStandHere_111 : decode cX3_canStandHere 111 = .ok (.iconst 1, 1) := by decide +kernel
theorem dX3_canStandHere_112 : decode cX3_canStandHere 112 = .ok (.goto 4, 3) := by decide +kernel
theorem dX3_canStandHere_115 : decode cX3_canStandHere 115 = .ok (.iconst 0, 1) := by decide +kernel
theorem dX3_canStandHere_116 : decode cX3_canStandHere 116 = .ok (.ireturn, 1) := by decide +kernel
theorem dX3_canStandHere_117 : decode cX3_canStandHere 117 = .ok (.aload_n 0, 1) := by decide +kernel
theorem dX3_canStandHere_118 : decode cX3_canStandHere 118 = .ok (.getfield 25, 3) := by decide +kernel
theorem dX3_canStandHere_121 : decode cX3_canStandHere 121 = .ok (.bipush 6, 2) := by decide +kernel
theorem dX3_canStandHere_123 : decode cX3_canStandHere 123 = .ok (.if_icmp .ne 7, 3) := by decide +kernel
theorem dX3_canStandHere_126 : decode cX3_canStandHere 126 = .ok (.iconst 1, 1) := by decide +kernel
theorem dX3_canStandHere_127 : decode cX3_canStandHere 127 = .ok (.goto 4, 3) := by decide +kernel
theorem dX3_canStandHere_130 : decode cX3_canStandHere 130 = .ok (.iconst 0, 1) := by decide +kernel
theorem dX3_canStandHere_131 : decode cX3_canStandHere 131 = .ok (.ireturn, 1) := by decide +kernel
theorem dX3_takeWay_0 : decode cX3_takeWay 0 = .ok (.aload_n 0, 1) := by decide +kernel
theorem dX3_takeWay_1 : decode cX3_takeWay 1 = .ok (.getfield 25, 3) := by decide +kernel
theorem dX3_takeWay_4 : decode cX3_takeWay 4 = .ok (.lookupswitch 50 #[(3, 28), (4, 39)], 28) := by decide +kernel
theorem dX3_takeWay_32 : decode cX3_takeWay 32 = .ok (.aload_n 0, 1) := by decide +kernel
theorem dX3_takeWay_33 : decode cX3_takeWay 33 = .ok (.iconst 1, 1) := by decide +kernel
theorem dX3_takeWay_34 : decode cX3_takeWay 34 = .ok (.putfield 41, 3) := by decide +kernel
theorem dX3_takeWay_37 : decode cX3_takeWay 37 = .ok (.aload_n 0, 1) := by decide +kernel
theorem dX3_takeWay_38 : decode cX3_takeWay 38 = .ok (.iconst 5, 1) := by decide +kernel
theorem dX3_takeWay_39 : decode cX3_takeWay 39 = .ok (.putfield 34, 3) := by decide +kernel
theorem dX3_takeWay_42 : decode cX3_takeWay 42 = .ok (.return_, 1) := by decide +kernel
theorem dX3_takeWay_43 : decode cX3_takeWay 43 = .ok (.aload_n 0, 1) := by decide +kernel
theorem dX3_takeWay_44 : decode cX3_takeWay 44 = .ok (.iconst 2, 1) := by decide +kernel
theorem dX3_takeWay_45 : decode cX3_takeWay 45 = .ok (.putfield 41, 3) := by decide +kernel
theorem dX3_takeWay_48 : decode cX3_takeWay 48 = .ok (.aload_n 0, 1) := by decide +kernel
theorem dX3_takeWay_49 : decode cX3_takeWay 49 = .ok (.iconst 3, 1) := by decide +kernel
theorem dX3_takeWay_50 : decode cX3_takeWay 50 = .ok (.putfield 34, 3) := by decide +kernel
theorem dX3_takeWay_53 : decode cX3_takeWay 53 = .ok (.return_, 1) := by decide +kernel
theorem dX3_takeWay_54 : decode cX3_takeWay 54 = .ok (.aload_n 0, 1) := by decide +kernel
theorem dX3_takeWay_55 : decode cX3_takeWay 55 = .ok (.iconst 0, 1) := by decide +kernel
theorem dX3_takeWay_56 : decode cX3_takeWay 56 = .ok (.putfield 41, 3) := by decide +kernel
theorem dX3_takeWay_59 : decode cX3_takeWay 59 = .ok (.aload_n 0, 1) := by decide +kernel
theorem dX3_takeWay_60 : decode cX3_takeWay 60 = .ok (.bipush 6, 2) := by decide +kernel
theorem dX3_takeWay_62 : decode cX3_takeWay 62 = .ok (.putfield 34, 3) := by decide +kernel
theorem dX3_takeWay_65 : decode cX3_takeWay 65 = .ok (.return_, 1) := by decide +kernel
theorem dX3_readToken_0 : decode cX3_readToken 0 = .ok (.aload_n 0, 1) := by decide +kernel
theorem dX3_readToken_1 : decode cX3_readToken 1 = .ok (.getfield 22, 3) := by decide +kernel
theorem dX3_readToken_4 : decode cX3_readToken 4 = .ok (.aload_n 0, 1) := by decide +kernel
theorem dX3_readToken_5 : decode cX3_readToken 5 = .ok (.getfield 15, 3) := by decide +kernel
theorem dX3_readToken_8 : decode cX3_readToken 8 = .ok (.if_icmp .ge 42, 3) := by decide +kernel
theorem dX3_readToken_11 : decode cX3_readToken 11 = .ok (.aload_n 0, 1) := by decide +kernel
theorem dX3_readToken_12 : decode cX3_readToken 12 = .ok (.aload_n 0, 1) := by decide +kernel
theorem dX3_readToken_13 : decode cX3_readToken 13 = .ok (.getfield 22, 3) := by decide +kernel
theorem dX3_readToken_16 : decode cX3_readToken 16 = .ok (.invokevirtual 86, 3) := by decide +kernel
theorem dX3_readToken_19 : decode cX3_readToken 19 = .ok (.bipush 32, 2) := by decide +kernel
theorem dX3_readToken_21 : decode cX3_readToken 21 = .ok (.if_icmp .eq 16, 3) := by decide +kernel
theorem dX3_readToken_24 : decode cX3_readToken 24 = .ok (.aload_n 0, 1) := by decide +kernel
theorem dX3_readToken_25 : decode cX3_readToken 25 = .ok (.aload_n 0, 1) := by decide +kernel
theorem dX3_readToken_26 : decode cX3_readToken 26 = .ok (.getfield 22, 3) := by decide +kernel
theorem dX3_readToken_29 : decode cX3_readToken 29 = .ok (.invokevirtual 86, 3) := by decide +kernel
theorem dX3_readToken_32 : decode cX3_readToken 32 = .ok (.bipush 10, 2) := by decide +kernel
theorem dX3_readToken_34 : decode cX3_readToken 34 = .ok (.if_icmp .ne 16, 3) := by decide +kernel
theorem dX3_readToken_37 : decode cX3_readToken 37 = .ok (.aload_n 0, 1) := by decide +kernel
theorem dX3_readToken_38 : decode cX3_readToken 38 = .ok (.dup, 1) := by decide +kernel
theorem dX3_readToken_39 : decode cX3_readToken 39 = .ok (.getfield 22, 3) := by decide +kernel
theorem dX3_readToken_42 : decode cX3_readToken 42 = .ok (.iconst 1, 1) := by decide +kernel
theorem dX3_readToken_43 : decode cX3_readToken 43 = .ok (.iadd, 1) := by decide +kernel
theorem dX3_readToken_44 : decode cX3_readToken 44 = .ok (.putfield 22, 3) := by decide +kernel
theorem dX3_readToken_47 : decode cX3_readToken 47 = .ok (.goto (-47), 3) := by decide +kernel
theorem dX3_readToken_50 : decode cX3_readToken 50 = .ok (.aload_n 0, 1) := by decide +kernel
theorem dX3_readToken_51 : decode cX3_readToken 51 = .ok (.aload_n 0, 1) := by decide +kernel
theorem dX3_readToken_52 : decode cX3_readToken 52 = .ok (.getfield 22, 3) := by decide +kernel
theorem dX3_readToken_55 : decode cX3_readToken 55 = .ok (.putfield 28, 3) := by decide +kernel
theorem dX3_readToken_58 : decode cX3_readToken 58 = .ok (.aload_n 0, 1) := by decide +kernel
theorem dX3_readToken_59 : decode cX3_readToken 59 = .ok (.aload_n 0, 1) := by decide +kernel
theorem dX3_readToken_60 : decode cX3_readToken 60 = .ok (.getfield 28, 3) := by decide +kernel
theorem dX3_readToken_63 : decode cX3_readToken 63 = .ok (.invokevirtual 86, 3) := by decide +kernel
theorem dX3_readToken_66 : decode cX3_readToken 66 = .ok (.istore_n 1, 1) := by decide +kernel
theorem dX3_readToken_67 : decode cX3_readToken 67 = .ok (.iload_n 1, 1) := by decide +kernel
theorem dX3_readToken_68 : decode cX3_readToken 68 = .ok (.ifCond .ge 11, 3) := by decide +kernel
theorem dX3_readToken_71 : decode cX3_readToken 71 = .ok (.aload_n 0, 1) := by decide +kernel
theorem dX3_readToken_72 : decode cX3_readToken 72 = .ok (.iconst 0, 1) := by decide +kernel
theorem dX3_readToken_73 : decode cX3_readToken 73 = .ok (.putfield 25, 3) := by decide +kernel
theorem dX3_readToken_76 : decode cX3_readToken 76 = .ok (.goto 153, 3) := by decide +kernel
theorem dX3_readToken_79 : decode cX3_readToken 79 = .ok (.iload_n 1, 1) := by decide +kernel
theorem dX3_readToken_80 : decode cX3_readToken 80 = .ok (.invokestatic 90, 3) := by decide +kernel
theorem dX3_readToken_83 : decode cX3_readToken 83 = .ok (.ifCond .eq 52, 3) := by decide +kernel
theorem dX3_readToken_86 : decode cX3_readToken 86 = .ok (.aload_n 0, 1) := by decide +kernel
theorem dX3_readToken_87 : decode cX3_readToken 87 = .ok (.getfield 22, 3) := by decide +kernel
theorem dX3_readToken_90 : decode cX3_readToken 90 = .ok (.aload_n 0, 1) := by decide +kernel
theorem dX3_readToken_91 : decode cX3_readToken 91 = .ok (.getfield 15, 3) := by decide +kernel
theorem dX3_readToken_94 : decode cX3_readToken 94 = .ok (.if_icmp .ge 30, 3) := by decide +kernel
theorem dX3_readToken_97 : decode cX3_readToken 97 = .ok (.aload_n 0, 1) := by decide +kernel
theorem dX3_readToken_98 : decode cX3_readToken 98 = .ok (.aload_n 0, 1) := by decide +kernel
theorem dX3_readToken_99 : decode cX3_readToken 99 = .ok (.getfield 22, 3) := by decide +kernel
theorem dX3_readToken_102 : decode cX3_readToken 102 = .ok (.invokevirtual 86, 3) := by decide +kernel
theorem dX3_readToken_105 : decode cX3_readToken 105 = .ok (.invokestatic 90, 3) := by decide +kernel
theorem dX3_readToken_108 : decode cX3_readToken 108 = .ok (.ifCond .eq 16, 3) := by decide +kernel
theorem dX3_readToken_111 : decode cX3_readToken 111 = .ok (.aload_n 0, 1) := by decide +kernel
theorem dX3_readToken_112 : decode cX3_readToken 112 = .ok (.dup, 1) := by decide +kernel
theorem dX3_readToken_113 : decode cX3_readToken 113 = .ok (.getfield 22, 3) := by decide +kernel
theorem dX3_readToken_116 : decode cX3_readToken 116 = .ok (.iconst 1, 1) := by decide +kernel
theorem dX3_readToken_117 : decode cX3_readToken 117 = .ok (.iadd, 1) := by decide +kernel
theorem dX3_readToken_118 : decode cX3_readToken 118 = .ok (.putfield 22, 3) := by decide +kernel
theorem dX3_readToken_121 : decode cX3_readToken 121 = .ok (.goto (-35), 3) := by decide +kernel
theorem dX3_readToken_124 : decode cX3_readToken 124 = .ok (.aload_n 0, 1) := by decide +kernel
theorem dX3_readToken_125 : decode cX3_readToken 125 = .ok (.aload_n 0, 1) := by decide +kernel
theorem dX3_readToken_126 : decode cX3_readToken 126 = .ok (.invokevirtual 94, 3) := by decide +kernel
theorem dX3_readToken_129 : decode cX3_readToken 129 = .ok (.putfield 25, 3) := by decide +kernel
theorem dX3_readToken_132 : decode cX3_readToken 132 = .ok (.goto 97, 3) := by decide +kernel
theorem dX3_readToken_135 : decode cX3_readToken 135 = .ok (.iload_n 1, 1) := by decide +kernel
theorem dX3_readToken_136 : decode cX3_readToken 136 = .ok (.invokestatic 98, 3) := by decide +kernel
theorem dX3_readToken_139 : decode cX3_readToken 139 = .ok (.ifCond .eq 52, 3) := by decide +kernel
theorem dX3_readToken_142 : decode cX3_readToken 142 = .ok (.aload_n 0, 1) := by decide +kernel
theorem dX3_readToken_143 : decode cX3_readToken 143 = .ok (.getfield 22, 3) := by decide +kernel
theorem dX3_readToken_146 : decode cX3_readToken 146 = .ok (.aload_n 0, 1) := by decide +kernel
theorem dX3_readToken_147 : decode cX3_readToken 147 = .ok (.getfield 15, 3) := by decide +kernel
theorem dX3_readToken_150 : decode cX3_readToken 150 = .ok (.if_icmp .ge 30, 3) := by decide +kernel
theorem dX3_readToken_153 : decode cX3_readToken 153 = .ok (.aload_n 0, 1) := by decide +kernel
theorem dX3_readToken_154 : decode cX3_readToken 154 = .ok (.aload_n 0, 1) := by decide +kernel
theorem dX3_readToken_155 : decode cX3_readToken 155 = .ok (.getfield 22, 3) := by decide +kernel
theorem dX3_readToken_158 : decode cX3_readToken 158 = .ok (.invokevirtual 86, 3) := by decide +kernel
theorem dX3_readToken_161 : decode cX3_readToken 161 = .ok (.invokestatic 98, 3) := by decide +kernel
theorem dX3_readToken_164 : decode cX3_readToken 164 = .ok (.ifCond .eq 16, 3) := by decide +kernel
theorem dX3_readToken_167 : decode cX3_readToken 167 = .ok (.aload_n 0, 1) := by decide +kernel
theorem dX3_readToken_168 : decode cX3_readToken 168 = .ok (.dup, 1) := by decide +kernel
theorem dX3_readToken_169 : decode cX3_readToken 169 = .ok (.getfield 22, 3) := by decide +kernel
theorem dX3_readToken_172 : decode cX3_readToken 172 = .ok (.iconst 1, 1) := by decide +kernel
theorem dX3_readToken_173 : decode cX3_readToken 173 = .ok (.iadd, 1) := by decide +kernel
theorem dX3_readToken_174 : decode cX3_readToken 174 = .ok (.putfield 22, 3) := by decide +kernel
theorem dX3_readToken_177 : decode cX3_readToken 177 = .ok (.goto (-35), 3) := by decide +kernel
theorem dX3_readToken_180 : decode cX3_readToken 180 = .ok (.aload_n 0, 1) := by decide +kernel
theorem dX3_readToken_181 : decode cX3_readToken 181 = .ok (.aload_n 0, 1) := by decide +kernel
theorem dX3_readToken_182 : decode cX3_readToken 182 = .ok (.invokevirtual 101, 3) := by decide +kernel
theorem dX3_readToken_185 : decode cX3_readToken 185 = .ok (.putfield 25, 3) := by decide +kernel
theorem dX3_readToken_188 : decode cX3_readToken 188 = .ok (.goto 41, 3) := by decide +kernel
theorem dX3_readToken_191 : decode cX3_readToken 191 = .ok (.aload_n 0, 1) := by decide +kernel
theorem dX3_readToken_192 : decode cX3_readToken 192 = .ok (.dup, 1) := by decide +kernel
theorem dX3_readToken_193 : decode cX3_readToken 193 = .ok (.getfield 22, 3) := by decide +kernel
theorem dX3_readToken_196 : decode cX3_readToken 196 = .ok (.iconst 1, 1) := by decide +kernel
theorem dX3_readToken_197 : decode cX3_readToken 197 = .ok (.iadd, 1) := by decide +kernel
theorem dX3_readToken_198 : decode cX3_readToken 198 = .ok (.putfield 22, 3) := by decide +kernel
theorem dX3_readToken_201 : decode cX3_readToken 201 = .ok (.aload_n 0, 1) := by decide +kernel
theorem dX3_readToken_202 : decode cX3_readToken 202 = .ok (.iload_n 1, 1) := by decide +kernel
theorem dX3_readToken_203 : decode cX3_readToken 203 = .ok (.bipush 59, 2) := by decide +kernel
theorem dX3_readToken_205 : decode cX3_readToken 205 = .ok (.if_icmp .ne 8, 3) := by decide +kernel
theorem dX3_readToken_208 : decode cX3_readToken 208 = .ok (.bipush 6, 2) := by decide +kernel
theorem dX3_readToken_210 : decode cX3_readToken 210 = .ok (.goto 16, 3) := by decide +kernel
theorem dX3_readToken_213 : decode cX3_readToken 213 = .ok (.iload_n 1, 1) := by decide +kernel
theorem dX3_readToken_214 : decode cX3_readToken 214 = .ok (.bipush 64, 2) := by decide +kernel
theorem dX3_readToken_216 : decode cX3_readToken 216 = .ok (.if_icmp .ne 8, 3) := by decide +kernel
theorem dX3_readToken_219 : decode cX3_readToken 219 = .ok (.bipush 7, 2) := by decide +kernel
theorem dX3_readToken_221 : decode cX3_readToken 221 = .ok (.goto 5, 3) := by decide +kernel
theorem dX3_readToken_224 : decode cX3_readToken 224 = .ok (.bipush 8, 2) := by decide +kernel
theorem dX3_readToken_226 : decode cX3_readToken 226 = .ok (.putfield 25, 3) := by decide +kernel
theorem dX3_readToken_229 : decode cX3_readToken 229 = .ok (.return_, 1) := by decide +kernel
theorem dX3_nameToken_0 : decode cX3_nameToken 0 = .ok (.aload_n 0, 1) := by decide +kernel
theorem dX3_nameToken_1 : decode cX3_nameToken 1 = .ok (.getfield 22, 3) := by decide +kernel
theorem dX3_nameToken_4 : decode cX3_nameToken 4 = .ok (.aload_n 0, 1) := by decide +kernel
theorem dX3_nameToken_5 : decode cX3_nameToken 5 = .ok (.getfield 28, 3) := by decide +kernel
theorem dX3_nameToken_8 : decode cX3_nameToken 8 = .ok (.isub, 1) := by decide +kernel
theorem dX3_nameToken_9 : decode cX3_nameToken 9 = .ok (.bipush 6, 2) := by decide +kernel
theorem dX3_nameToken_11 : decode cX3_nameToken 11 = .ok (.if_icmp .le 6, 3) := by decide +kernel
theorem dX3_nameToken_14 : decode cX3_nameToken 14 = .ok (.bipush 8, 2) := by decide +kernel
theorem dX3_nameToken_16 : decode cX3_nameToken 16 = .ok (.ireturn, 1) := by decide +kernel
theorem dX3_nameToken_17 : decode cX3_nameToken 17 = .ok (.aload_n 0, 1) := by decide +kernel
theorem dX3_nameToken_18 : decode cX3_nameToken 18 = .ok (.ldc 104, 2) := by decide +kernel
theorem dX3_nameToken_20 : decode cX3_nameToken 20 = .ok (.invokevirtual 106, 3) := by decide +kernel
theorem dX3_nameToken_23 : decode cX3_nameToken 23 = .ok (.ifCond .eq 5, 3) := by decide +kernel
theorem dX3_nameToken_26 : decode cX3_nameToken 26 = .ok (.iconst 1, 1) := by decide +kernel
theorem dX3_nameToken_27 : decode cX3_nameToken 27 = .ok (.ireturn, 1) := by decide +kernel
theorem dX3_nameToken_28 : decode cX3_nameToken 28 = .ok (.aload_n 0, 1) := by decide +kernel
theorem dX3_nameToken_29 : decode cX3_nameToken 29 = .ok (.ldc 110, 2) := by decide +kernel
theorem dX3_nameToken_31 : decode cX3_nameToken 31 = .ok (.invokevirtual 106, 3) := by decide +kernel
theorem dX3_nameToken_34 : decode cX3_nameToken 34 = .ok (.ifCond .eq 5, 3) := by decide +kernel
theorem dX3_nameToken_37 : decode cX3_nameToken 37 = .ok (.iconst 2, 1) := by decide +kernel
theorem dX3_nameToken_38 : decode cX3_nameToken 38 = .ok (.ireturn, 1) := by decide +kernel
theorem dX3_nameToken_39 : decode cX3_nameToken 39 = .ok (.aload_n 0, 1) := by decide +kernel
theorem dX3_nameToken_40 : decode cX3_nameToken 40 = .ok (.ldc 112, 2) := by decide +kernel
theorem dX3_nameToken_42 : decode cX3_nameToken 42 = .ok (.invokevirtual 106, 3) := by decide +kernel
theorem dX3_nameToken_45 : decode cX3_nameToken 45 = .ok (.ifCond .eq 5, 3) := by decide +kernel
theorem dX3_nameToken_48 : decode cX3_nameToken 48 = .ok (.iconst 3, 1) := by decide +kernel
theorem dX3_nameToken_49 : decode cX3_nameToken 49 = .ok (.ireturn, 1) := by decide +kernel
theorem dX3_nameToken_50 : decode cX3_nameToken 50 = .ok (.aload_n 0, 1) := by decide +kernel
theorem dX3_nameToken_51 : decode cX3_nameToken 51 = .ok (.ldc 114, 2) := by decide +kernel
theorem dX3_nameToken_53 : decode cX3_nameToken 53 = .ok (.invokevirtual 106, 3) := by decide +kernel
theorem dX3_nameToken_56 : decode cX3_nameToken 56 = .ok (.ifCond .eq 7, 3) := by decide +kernel
theorem dX3_nameToken_59 : decode cX3_nameToken 59 = .ok (.iconst 4, 1) := by decide +kernel
theorem dX3_nameToken_60 : decode cX3_nameToken 60 = .ok (.goto 5, 3) := by decide +kernel
theorem dX3_nameToken_63 : decode cX3_nameToken 63 = .ok (.bipush 8, 2) := by decide +kernel
theorem dX3_nameToken_65 : decode cX3_nameToken 65 = .ok (.ireturn, 1) := by decide +kernel
theorem dX3_isName_0 : decode cX3_isName 0 = .ok (.aload_n 1, 1) := by decide +kernel
theorem dX3_isName_1 : decode cX3_isName 1 = .ok (.invokevirtual 116, 3) := by decide +kernel
theorem dX3_isName_4 : decode cX3_isName 4 = .ok (.aload_n 0, 1) := by decide +kernel
theorem dX3_isName_5 : decode cX3_isName 5 = .ok (.getfield 22, 3) := by decide +kernel
theorem dX3_isName_8 : decode cX3_isName 8 = .ok (.aload_n 0, 1) := by decide +kernel
theorem dX3_isName_9 : decode cX3_isName 9 = .ok (.getfield 28, 3) := by decide +kernel
theorem dX3_isName_12 : decode cX3_isName 12 = .ok (.isub, 1) := by decide +kernel
theorem dX3_isName_13 : decode cX3_isName 13 = .ok (.if_icmp .eq 5, 3) := by decide +kernel
theorem dX3_isName_16 : decode cX3_isName 16 = .ok (.iconst 0, 1) := by decide +kernel
theorem dX3_isName_17 : decode cX3_isName 17 = .ok (.ireturn, 1) := by decide +kernel
theorem dX3_isName_18 : decode cX3_isName 18 = .ok (.iconst 0, 1) := by decide +kernel
theorem dX3_isName_19 : decode cX3_isName 19 = .ok (.istore_n 2, 1) := by decide +kernel
theorem dX3_isName_20 : decode cX3_isName 20 = .ok (.iload_n 2, 1) := by decide +kernel
theorem dX3_isName_21 : decode cX3_isName 21 = .ok (.aload_n 1, 1) := by decide +kernel
theorem dX3_isName_22 : decode cX3_isName 22 = .ok (.invokevirtual 116, 3) := by decide +kernel
theorem dX3_isName_25 : decode cX3_isName 25 = .ok (.if_icmp .ge 29, 3) := by decide +kernel
theorem dX3_isName_28 : decode cX3_isName 28 = .ok (.aload_n 1, 1) := by decide +kernel
theorem dX3_isName_29 : decode cX3_isName 29 = .ok (.iload_n 2, 1) := by decide +kernel
theorem dX3_isName_30 : decode cX3_isName 30 = .ok (.invokevirtual 121, 3) := by decide +kernel
theorem dX3_isName_33 : decode cX3_isName 33 = .ok (.aload_n 0, 1) := by decide +kernel
theorem dX3_isName_34 : decode cX3_isName 34 = .ok (.aload_n 0, 1) := by decide +kernel
theorem dX3_isName_35 : decode cX3_isName 35 = .ok (.getfield 28, 3) := by decide +kernel
theorem dX3_isName_38 : decode cX3_isName 38 = .ok (.iload_n 2, 1) := by decide +kernel
theorem dX3_isName_39 : decode cX3_isName 39 = .ok (.iadd, 1) := by decide +kernel
theorem dX3_isName_40 : decode cX3_isName 40 = .ok (.invokevirtual 86, 3) := by decide +kernel
theorem dX3_isName_43 : decode cX3_isName 43 = .ok (.if_icmp .eq 5, 3) := by decide +kernel
theorem dX3_isName_46 : decode cX3_isName 46 = .ok (.iconst 0, 1) := by decide +kernel
theorem dX3_isName_47 : decode cX3_isName 47 = .ok (.ireturn, 1) := by decide +kernel
theorem dX3_isName_48 : decode cX3_isName 48 = .ok (.iinc 2 1, 3) := by decide +kernel
theorem dX3_isName_51 : decode cX3_isName 51 = .ok (.goto (-31), 3) := by decide +kernel
theorem dX3_isName_54 : decode cX3_isName 54 = .ok (.iconst 1, 1) := by decide +kernel
theorem dX3_isName_55 : decode cX3_isName 55 = .ok (.ireturn, 1) := by decide +kernel
theorem dX3_numberToken_0 : decode cX3_numberToken 0 = .ok (.aload_n 0, 1) := by decide +kernel
theorem dX3_numberToken_1 : decode cX3_numberToken 1 = .ok (.getfield 22, 3) := by decide +kernel
theorem dX3_numberToken_4 : decode cX3_numberToken 4 = .ok (.aload_n 0, 1) := by decide +kernel
theorem dX3_numberToken_5 : decode cX3_numberToken 5 = .ok (.getfield 28, 3) := by decide +kernel
theorem dX3_numberToken_8 : decode cX3_numberToken 8 = .ok (.isub, 1) := by decide +kernel
theorem dX3_numberToken_9 : decode cX3_numberToken 9 = .ok (.iconst 5, 1) := by decide +kernel
theorem dX3_numberToken_10 : decode cX3_numberToken 10 = .ok (.if_icmp .le 6, 3) := by decide +kernel
theorem dX3_numberToken_13 : decode cX3_numberToken 13 = .ok (.bipush 8, 2) := by decide +kernel
theorem dX3_numberToken_15 : decode cX3_numberToken 15 = .ok (.ireturn, 1) := by decide +kernel
theorem dX3_numberToken_16 : decode cX3_numberToken 16 = .ok (.aload_n 0, 1) := by decide +kernel
theorem dX3_numberToken_17 : decode cX3_numberToken 17 = .ok (.iconst 0, 1) := by decide +kernel
theorem dX3_numberToken_18 : decode cX3_numberToken 18 = .ok (.putfield 31, 3) := by decide +kernel
theorem dX3_numberToken_21 : decode cX3_numberToken 21 = .ok (.aload_n 0, 1) := by decide +kernel
theorem dX3_numberToken_22 : decode cX3_numberToken 22 = .ok (.getfield 28, 3) := by decide +kernel
theorem dX3_numberToken_25 : decode cX3_numberToken 25 = .ok (.istore_n 1, 1) := by decide +kernel
theorem dX3_numberToken_26 : decode cX3_numberToken 26 = .ok (.iload_n 1, 1) := by decide +kernel
theorem dX3_numberToken_27 : decode cX3_numberToken 27 = .ok (.aload_n 0, 1) := by decide +kernel
theorem dX3_numberToken_28 : decode cX3_numberToken 28 = .ok (.getfield 22, 3) := by decide +kernel
theorem dX3_numberToken_31 : decode cX3_numberToken 31 = .ok (.if_icmp .ge 29, 3) := by decide +kernel
theorem dX3_numberToken_34 : decode cX3_numberToken 34 = .ok (.aload_n 0, 1) := by decide +kernel
theorem dX3_numberToken_35 : decode cX3_numberToken 35 = .ok (.aload_n 0, 1) := by decide +kernel
theorem dX3_numberToken_36 : decode cX3_numberToken 36 = .ok (.getfield 31, 3) := by decide +kernel
theorem dX3_numberToken_39 : decode cX3_numberToken 39 = .ok (.bipush 10, 2) := by decide +kernel
theorem dX3_numberToken_41 : decode cX3_numberToken 41 = .ok (.imul, 1) := by decide +kernel
theorem dX3_numberToken_42 : decode cX3_numberToken 42 = .ok (.aload_n 0, 1) := by decide +kernel
theorem dX3_numberToken_43 : decode cX3_numberToken 43 = .ok (.iload_n 1, 1) := by decide +kernel
theorem dX3_numberToken_44 : decode cX3_numberToken 44 = .ok (.invokevirtual 86, 3) := by decide +kernel
theorem dX3_numberToken_47 : decode cX3_numberToken 47 = .ok (.iadd, 1) := by decide +kernel
theorem dX3_numberToken_48 : decode cX3_numberToken 48 = .ok (.bipush 48, 2) := by decide +kernel
theorem dX3_numberToken_50 : decode cX3_numberToken 50 = .ok (.isub, 1) := by decide +kernel
theorem dX3_numberToken_51 : decode cX3_numberToken 51 = .ok (.putfield 31, 3) := by decide +kernel
theorem dX3_numberToken_54 : decode cX3_numberToken 54 = .ok (.iinc 1 1, 3) := by decide +kernel
theorem dX3_numberToken_57 : decode cX3_numberToken 57 = .ok (.goto (-31), 3) := by decide +kernel
theorem dX3_numberToken_60 : decode cX3_numberToken 60 = .ok (.iconst 5, 1) := by decide +kernel
theorem dX3_numberToken_61 : decode cX3_numberToken 61 = .ok (.ireturn, 1) := by decide +kernel
theorem dX3_isLetter_0 : decode cX3_isLetter 0 = .ok (.iload_n 0, 1) := by decide +kernel
theorem dX3_isLetter_1 : decode cX3_isLetter 1 = .ok (.bipush 97, 2) := by decide +kernel
theorem dX3_isLetter_3 : decode cX3_isLetter 3 = .ok (.if_icmp .lt 13, 3) := by decide +kernel
theorem dX3_isLetter_6 : decode cX3_isLetter 6 = .ok (.iload_n 0, 1) := by decide +kernel
theorem dX3_isLetter_7 : decode cX3_isLetter 7 = .ok (.bipush 122, 2) := by decide +kernel
theorem dX3_isLetter_9 : decode cX3_isLetter 9 = .ok (.if_icmp .gt 7, 3) := by decide +kernel
theorem dX3_isLetter_12 : decode cX3_isLetter 12 = .ok (.iconst 1, 1) := by decide +kernel
theorem dX3_isLetter_13 : decode cX3_isLetter 13 = .ok (.goto 4, 3) := by decide +kernel
theorem dX3_isLetter_16 : decode cX3_isLetter 16 = .ok (.iconst 0, 1) := by decide +kernel
theorem dX3_isLetter_17 : decode cX3_isLetter 17 = .ok (.ireturn, 1) := by decide +kernel
theorem dX3_isFigure_0 : decode cX3_isFigure 0 = .ok (.iload_n 0, 1) := by decide +kernel
theorem dX3_isFigure_1 : decode cX3_isFigure 1 = .ok (.bipush 48, 2) := by decide +kernel
theorem dX3_isFigure_3 : decode cX3_isFigure 3 = .ok (.if_icmp .lt 13, 3) := by decide +kernel
theorem dX3_isFigure_6 : decode cX3_isFigure 6 = .ok (.iload_n 0, 1) := by decide +kernel
theorem dX3_isFigure_7 : decode cX3_isFigure 7 = .ok (.bipush 57, 2) := by decide +kernel
theorem dX3_isFigure_9 : decode cX3_isFigure 9 = .ok (.if_icmp .gt 7, 3) := by decide +kernel
theorem dX3_isFigure_12 : decode cX3_isFigure 12 = .ok (.iconst 1, 1) := by decide +kernel
theorem dX3_isFigure_13 : decode cX3_isFigure 13 = .ok (.goto 4, 3) := by decide +kernel
theorem dX3_isFigure_16 : decode cX3_isFigure 16 = .ok (.iconst 0, 1) := by decide +kernel
theorem dX3_isFigure_17 : decode cX3_isFigure 17 = .ok (.ireturn, 1) := by decide +kernel
theorem dX3_byteAt_0 : decode cX3_byteAt 0 = .ok (.iload_n 1, 1) := by decide +kernel
theorem dX3_byteAt_1 : decode cX3_byteAt 1 = .ok (.ifCond .lt 20, 3) := by decide +kernel
theorem dX3_byteAt_4 : decode cX3_byteAt 4 = .ok (.iload_n 1, 1) := by decide +kernel
theorem dX3_byteAt_5 : decode cX3_byteAt 5 = .ok (.aload_n 0, 1) := by decide +kernel
theorem dX3_byteAt_6 : decode cX3_byteAt 6 = .ok (.getfield 15, 3) := by decide +kernel
theorem dX3_byteAt_9 : decode cX3_byteAt 9 = .ok (.if_icmp .ge 12, 3) := by decide +kernel
theorem dX3_byteAt_12 : decode cX3_byteAt 12 = .ok (.iload_n 1, 1) := by decide +kernel
theorem dX3_byteAt_13 : decode cX3_byteAt 13 = .ok (.aload_n 0, 1) := by decide +kernel
theorem dX3_byteAt_14 : decode cX3_byteAt 14 = .ok (.getfield 11, 3) := by decide +kernel
theorem dX3_byteAt_17 : decode cX3_byteAt 17 = .ok (.arraylength, 1) := by decide +kernel
theorem dX3_byteAt_18 : decode cX3_byteAt 18 = .ok (.if_icmp .lt 7, 3) := by decide +kernel
theorem dX3_byteAt_21 : decode cX3_byteAt 21 = .ok (.iconst (-1), 1) := by decide +kernel
theorem dX3_byteAt_22 : decode cX3_byteAt 22 = .ok (.goto 13, 3) := by decide +kernel
theorem dX3_byteAt_25 : decode cX3_byteAt 25 = .ok (.aload_n 0, 1) := by decide +kernel
theorem dX3_byteAt_26 : decode cX3_byteAt 26 = .ok (.getfield 11, 3) := by decide +kernel
theorem dX3_byteAt_29 : decode cX3_byteAt 29 = .ok (.iload_n 1, 1) := by decide +kernel
theorem dX3_byteAt_30 : decode cX3_byteAt 30 = .ok (.baload, 1) := by decide +kernel
theorem dX3_byteAt_31 : decode cX3_byteAt 31 = .ok (.sipush 255, 3) := by decide +kernel
theorem dX3_byteAt_34 : decode cX3_byteAt 34 = .ok (.iand, 1) := by decide +kernel
theorem dX3_byteAt_35 : decode cX3_byteAt 35 = .ok (.ireturn, 1) := by decide +kernel
theorem dX4_init_0 : decode cX4_init 0 = .ok (.aload_n 0, 1) := by decide +kernel
theorem dX4_init_1 : decode cX4_init 1 = .ok (.invokespecial 3, 3) := by decide +kernel
theorem dX4_init_4 : decode cX4_init 4 = .ok (.aload_n 0, 1) := by decide +kernel
theorem dX4_init_5 : decode cX4_init 5 = .ok (.bipush 8, 2) := by decide +kernel
theorem dX4_init_7 : decode cX4_init 7 = .ok (.newarray .int, 2) := by decide +kernel
theorem dX4_init_9 : decode cX4_init 9 = .ok (.putfield 9, 3) := by decide +kernel
theorem dX4_init_12 : decode cX4_init 12 = .ok (.aload_n 0, 1) := by decide +kernel
theorem dX4_init_13 : decode cX4_init 13 = .ok (.bipush 9, 2) := by decide +kernel
theorem dX4_init_15 : decode cX4_init 15 = .ok (.newarray .int, 2) := by decide +kernel
theorem dX4_init_17 : decode cX4_init 17 = .ok (.putfield 15, 3) := by decide +kernel
theorem dX4_init_20 : decode cX4_init 20 = .ok (.aload_n 0, 1) := by decide +kernel
theorem dX4_init_21 : decode cX4_init 21 = .ok (.bipush 9, 2) := by decide +kernel
theorem dX4_init_23 : decode cX4_init 23 = .ok (.newarray .int, 2) := by decide +kernel
theorem dX4_init_25 : decode cX4_init 25 = .ok (.putfield 18, 3) := by decide +kernel
theorem dX4_init_28 : decode cX4_init 28 = .ok (.aload_n 0, 1) := by decide +kernel
theorem dX4_init_29 : decode cX4_init 29 = .ok (.bipush 8, 2) := by decide +kernel
theorem dX4_init_31 : decode cX4_init 31 = .ok (.newarray .int, 2) := by decide +kernel
theorem dX4_init_33 : decode cX4_init 33 = .ok (.putfield 21, 3) := by decide +kernel
theorem dX4_init_36 : decode cX4_init 36 = .ok (.aload_n 0, 1) := by decide +kernel
theorem dX4_init_37 : decode cX4_init 37 = .ok (.sipush 2304, 3) := by decide +kernel
theorem dX4_init_40 : decode cX4_init 40 = .ok (.newarray .int, 2) := by decide +kernel
theorem dX4_init_42 : decode cX4_init 42 = .ok (.putfield 24, 3) := by decide +kernel
theorem dX4_init_45 : decode cX4_init 45 = .ok (.aload_n 0, 1) := by decide +kernel
theorem dX4_init_46 : decode cX4_init 46 = .ok (.iconst 0, 1) := by decide +kernel
theorem dX4_init_47 : decode cX4_init 47 = .ok (.putfield 27, 3) := by decide +kernel
theorem dX4_init_50 : decode cX4_init 50 = .ok (.aload_n 0, 1) := by decide +kernel
theorem dX4_init_51 : decode cX4_init 51 = .ok (.iconst 0, 1) := by decide +kernel
theorem dX4_init_52 : decode cX4_init 52 = .ok (.putfield 31, 3) := by decide +kernel
theorem dX4_init_55 : decode cX4_init 55 = .ok (.return_, 1) := by decide +kernel
theorem dX4_way_0 : decode cX4_way 0 = .ok (.aload_n 0, 1) := by decide +kernel
theorem dX4_way_1 : decode cX4_way 1 = .ok (.iconst 1, 1) := by decide +kernel
theorem dX4_way_2 : decode cX4_way 2 = .ok (.aload_n 0, 1) := by decide +kernel
theorem dX4_way_3 : decode cX4_way 3 = .ok (.getfield 31, 3) := by decide +kernel
theorem dX4_way_6 : decode cX4_way 6 = .ok (.ishl, 1) := by decide +kernel
theorem dX4_way_7 : decode cX4_way 7 = .ok (.iconst 1, 1) := by decide +kernel
theorem dX4_way_8 : decode cX4_way 8 = .ok (.isub, 1) := by decide +kernel
theorem dX4_way_9 : decode cX4_way 9 = .ok (.bipush 8, 2) := by decide +kernel
theorem dX4_way_11 : decode cX4_way 11 = .ok (.invokevirtual 34, 3) := by decide +kernel
theorem dX4_way_14 : decode cX4_way 14 = .ok (.ireturn, 1) := by decide +kernel
theorem dX4_houseOn_0 : decode cX4_houseOn 0 = .ok (.iload_n 1, 1) := by decide +kernel
theorem dX4_houseOn_1 : decode cX4_houseOn 1 = .ok (.ifCond .lt 20, 3) := by decide +kernel
theorem dX4_houseOn_4 : decode cX4_houseOn 4 = .ok (.iload_n 1, 1) := by decide +kernel
theorem dX4_houseOn_5 : decode cX4_houseOn 5 = .ok (.aload_n 0, 1) := by decide +kernel
theorem dX4_houseOn_6 : decode cX4_houseOn 6 = .ok (.getfield 31, 3) := by decide +kernel
theorem dX4_houseOn_9 : decode cX4_houseOn 9 = .ok (.if_icmp .ge 12, 3) := by decide +kernel
theorem dX4_houseOn_12 : decode cX4_houseOn 12 = .ok (.iload_n 1, 1) := by decide +kernel
theorem dX4_houseOn_13 : decode cX4_houseOn 13 = .ok (.aload_n 0, 1) := by decide +kernel
theorem dX4_houseOn_14 : decode cX4_houseOn 14 = .ok (.getfield 21, 3) := by decide +kernel
theorem dX4_houseOn_17 : decode cX4_houseOn 17 = .ok (.arraylength, 1) := by decide +kernel
theorem dX4_houseOn_18 : decode cX4_houseOn 18 = .ok (.if_icmp .lt 8, 3) := by decide +kernel
theorem dX4_houseOn_21 : decode cX4_houseOn 21 = .ok (.ldc 38, 2) := by decide +kernel
theorem dX4_houseOn_23 : decode cX4_houseOn 23 = .ok (.goto 9, 3) := by decide +kernel
theorem dX4_houseOn_26 : decode cX4_houseOn 26 = .ok (.aload_n 0, 1) := by decide +kernel
theorem dX4_houseOn_27 : decode cX4_houseOn 27 = .ok (.getfield 21, 3) := by decide +kernel
theorem dX4_houseOn_30 : decode cX4_houseOn 30 = .ok (.iload_n 1, 1) := by decide +kernel
theorem dX4_houseOn_31 : decode cX4_houseOn 31 = .ok (.iaload, 1) := by decide +kernel
theorem dX4_houseOn_32 : decode cX4_houseOn 32 = .ok (.ireturn, 1) := by decide +kernel
theorem dX4_prepare_0 : decode cX4_prepare 0 = .ok (.iload_n 1, 1) := by decide +kernel
theorem dX4_prepare_1 : decode cX4_prepare 1 = .ok (.aload_n 0, 1) := by decide +kernel
theorem dX4_prepare_2 : decode cX4_prepare 2 = .ok (.getfield 27, 3) := by decide +kernel
theorem dX4_prepare_5 : decode cX4_prepare 5 = .ok (.if_icmp .ne 4, 3) := by decide +kernel
theorem dX4_prepare_8 : decode cX4_prepare 8 = .ok (.return_, 1) := by decide +kernel
theorem dX4_prepare_9 : decode cX4_prepare 9 = .ok (.aload_n 0, 1) := by decide +kernel
theorem dX4_prepare_10 : decode cX4_prepare 10 = .ok (.iload_n 1, 1) := by decide +kernel
theorem dX4_prepare_11 : decode cX4_prepare 11 = .ok (.putfield 27, 3) := by decide +kernel
theorem dX4_prepare_14 : decode cX4_prepare 14 = .ok (.aload_n 0, 1) := by decide +kernel
theorem dX4_prepare_15 : decode cX4_prepare 15 = .ok (.iload_n 1, 1) := by decide +kernel
theorem dX4_prepare_16 : decode cX4_prepare 16 = .ok (.aload_n 2, 1) := by decide +kernel
theorem dX4_prepare_17 : decode cX4_prepare 17 = .ok (.invokevirtual 39, 3) := by decide +kernel
theorem dX4_prepare_20 : decode cX4_prepare 20 = .ok (.iconst 0, 1) := by decide +kernel
theorem dX4_prepare_21 : decode cX4_prepare 21 = .ok (.istore_n 3, 1) := by decide +kernel
theorem dX4_prepare_22 : decode cX4_prepare 22 = .ok (.iload_n 3, 1) := by decide +kernel
theorem dX4_prepare_23 : decode cX4_prepare 23 = .ok (.iconst 1, 1) := by decide +kernel
theorem dX4_prepare_24 : decode cX4_prepare 24 = .ok (.aload_n 0, 1) := by decide +kernel
theorem dX4_prepare_25 : decode cX4_prepare 25 = .ok (.getfield 31, 3) := by decide +kernel
theorem dX4_prepare_28 : decode cX4_prepare 28 = .ok (.ishl, 1) := by decide +kernel
theorem dX4_prepare_29 : decode cX4_prepare 29 = .ok (.if_icmp .ge 50, 3) := by decide +kernel
theorem dX4_prepare_32 : decode cX4_prepare 32 = .ok (.aload_n 0, 1) := by decide +kernel
theorem dX4_prepare_33 : decode cX4_prepare 33 = .ok (.iload_n 3, 1) := by decide +kernel
theorem dX4_prepare_34 : decode cX4_prepare 34 = .ok (.bipush 8, 2) := by decide +kernel
theorem dX4_prepare_36 : decode cX4_prepare 36 = .ok (.invokevirtual 43, 3) := by decide +kernel
theorem dX4_prepare_39 : decode cX4_prepare 39 = .ok (.iconst 0, 1) := by decide +kernel
theorem dX4_prepare_40 : decode cX4_prepare 40 = .ok (.istore 4, 2) := by decide +kernel
theorem dX4_prepare_42 : decode cX4_prepare 42 = .ok (.iload 4, 2) := by decide +kernel
theorem dX4_prepare_44 : decode cX4_prepare 44 = .ok (.aload_n 0, 1) := by decide +kernel
theorem dX4_prepare_45 : decode cX4_prepare 45 = .ok (.getfield 31, 3) := by decide +kernel
theorem dX4_prepare_48 : decode cX4_prepare 48 = .ok (.if_icmp .ge 25, 3) := by decide +kernel
theorem dX4_prepare_51 : decode cX4_prepare 51 = .ok (.iload_n 3, 1) := by decide +kernel
theorem dX4_prepare_52 : decode cX4_prepare 52 = .ok (.iload 4, 2) := by decide +kernel
theorem dX4_prepare_54 : decode cX4_prepare 54 = .ok (.ishr, 1) := by decide +kernel
theorem dX4_prepare_55 : decode cX4_prepare 55 = .ok (.iconst 1, 1) := by decide +kernel
theorem dX4_prepare_56 : decode cX4_prepare 56 = .ok (.iand, 1) := by decide +kernel
theorem dX4_prepare_57 : decode cX4_prepare 57 = .ok (.ifCond .ne 10, 3) := by decide +kernel
theorem dX4_prepare_60 : decode cX4_prepare 60 = .ok (.aload_n 0, 1) := by decide +kernel
theorem dX4_prepare_61 : decode cX4_prepare 61 = .ok (.iload_n 3, 1) := by decide +kernel
theorem dX4_prepare_62 : decode cX4_prepare 62 = .ok (.iload 4, 2) := by decide +kernel
theorem dX4_prepare_64 : decode cX4_prepare 64 = .ok (.invokevirtual 43, 3) := by decide +kernel
theorem dX4_prepare_67 : decode cX4_prepare 67 = .ok (.iinc 4 1, 3) := by decide +kernel
theorem dX4_prepare_70 : decode cX4_prepare 70 = .ok (.goto (-28), 3) := by decide +kernel
theorem dX4_prepare_73 : decode cX4_prepare 73 = .ok (.iinc 3 1, 3) := by decide +kernel
theorem dX4_prepare_76 : decode cX4_prepare 76 = .ok (.goto (-54), 3) := by decide +kernel
theorem dX4_prepare_79 : decode cX4_prepare 79 = .ok (.aload_n 0, 1) := by decide +kernel
theorem dX4_prepare_80 : decode cX4_prepare 80 = .ok (.invokevirtual 47, 3) := by decide +kernel
theorem dX4_prepare_83 : decode cX4_prepare 83 = .ok (.return_, 1) := by decide +kernel
theorem dX4_gather_0 : decode cX4_gather 0 = .ok (.aload_n 0, 1) := by decide +kernel
theorem dX4_gather_1 : decode cX4_gather 1 = .ok (.iconst 0, 1) := by decide +kernel
theorem dX4_gather_2 : decode cX4_gather 2 = .ok (.putfield 31, 3) := by decide +kernel
theorem dX4_gather_5 : decode cX4_gather 5 = .ok (.iconst 0, 1) := by decide +kernel
theorem dX4_gather_6 : decode cX4_gather 6 = .ok (.istore_n 3, 1) := by decide +kernel
theorem dX4_gather_7 : decode cX4_gather 7 = .ok (.iload_n 3, 1) := by decide +kernel
theorem dX4_gather_8 : decode cX4_gather 8 = .ok (.bipush 24, 2) := by decide +kernel
theorem dX4_gather_10 : decode cX4_gather 10 = .ok (.if_icmp .ge 101, 3) := by decide +kernel
theorem dX4_gather_13 : decode cX4_gather 13 = .ok (.aload_n 0, 1) := by decide +kernel
theorem dX4_gather_14 : decode cX4_gather 14 = .ok (.getfield 31, 3) := by decide +kernel
theorem dX4_gather_17 : decode cX4_gather 17 = .ok (.aload_n 0, 1) := by decide +kernel
theorem dX4_gather_18 : decode cX4_gather 18 = .ok (.getfield 9, 3) := by decide +kernel
theorem dX4_gather_21 : decode cX4_gather 21 = .ok (.arraylength, 1) := by decide +kernel
theorem dX4_gather_22 : decode cX4_gather 22 = .ok (.if_icmp .ge 89, 3) := by decide +kernel
theorem dX4_gather_25 : decode cX4_gather 25 = .ok (.aload_n 0, 1) := by decide +kernel
theorem dX4_gather_26 : decode cX4_gather 26 = .ok (.getfield 31, 3) := by decide +kernel
theorem dX4_gather_29 : decode cX4_gather 29 = .ok (.bipush 8, 2) := by decide +kernel
theorem dX4_gather_31 : decode cX4_gather 31 = .ok (.if_icmp .ge 80, 3) := by decide +kernel
theorem dX4_gather_34 : decode cX4_gather 34 = .ok (.aload_n 2, 1) := by decide +kernel
theorem dX4_gather_35 : decode cX4_gather 35 = .ok (.iload_n 3, 1) := by decide +kernel
theorem dX4_gather_36 : decode cX4_gather 36 = .ok (.invokestatic 50, 3) := by decide +kernel
theorem dX4_gather_39 : decode cX4_gather 39 = .ok (.astore 4, 2) := by decide +kernel
theorem dX4_gather_41 : decode cX4_gather 41 = .ok (.aload 4, 2) := by decide +kernel
theorem dX4_gather_43 : decode cX4_gather 43 = .ok (.ifnull 62, 3) := by decide +kernel
theorem dX4_gather_46 : decode cX4_gather 46 = .ok (.iload_n 1, 1) := by decide +kernel
theorem dX4_gather_47 : decode cX4_gather 47 = .ok (.iload_n 3, 1) := by decide +kernel
theorem dX4_gather_48 : decode cX4_gather 48 = .ok (.ishr, 1) := by decide +kernel
theorem dX4_gather_49 : decode cX4_gather 49 = .ok (.iconst 1, 1) := by decide +kernel
theorem dX4_gather_50 : decode cX4_gather 50 = .ok (.iand, 1) := by decide +kernel
theorem dX4_gather_51 : decode cX4_gather 51 = .ok (.ifCond .ne 6, 3) := by decide +kernel
theorem dX4_gather_54 : decode cX4_gather 54 = .ok (.goto 51, 3) := by decide +kernel
theorem dX4_gather_57 : decode cX4_gather 57 = .ok (.aload_n 0, 1) := by decide +kernel
theorem dX4_gather_58 : decode cX4_gather 58 = .ok (.getfield 9, 3) := by decide +kernel
theorem dX4_gather_61 : decode cX4_gather 61 = .ok (.aload_n 0, 1) := by decide +kernel
theorem dX4_gather_62 : decode cX4_gather 62 = .ok (.getfield 31, 3) := by decide +kernel
theorem dX4_gather_65 : decode cX4_gather 65 = .ok (.iload_n 3, 1) := by decide +kernel
theorem dX4_gather_66 : decode cX4_gather 66 = .ok (.iastore, 1) := by decide +kernel
theorem dX4_gather_67 : decode cX4_gather 67 = .ok (.aload_n 0, 1) := by decide +kernel
theorem dX4_gather_68 : decode cX4_gather 68 = .ok (.getfield 15, 3) := by decide +kernel
theorem dX4_gather_71 : decode cX4_gather 71 = .ok (.aload_n 0, 1) := by decide +kernel
theorem dX4_gather_72 : decode cX4_gather 72 = .ok (.getfield 31, 3) := by decide +kernel
theorem dX4_gather_75 : decode cX4_gather 75 = .ok (.aload 4, 2) := by decide +kernel
theorem dX4_gather_77 : decode cX4_gather 77 = .ok (.getfield 54, 3) := by decide +kernel
theorem dX4_gather_80 : decode cX4_gather 80 = .ok (.iastore, 1) := by decide +kernel
theorem dX4_gather_81 : decode cX4_gather 81 = .ok (.aload_n 0, 1) := by decide +kernel
theorem dX4_gather_82 : decode cX4_gather 82 = .ok (.getfield 18, 3) := by decide +kernel
theorem dX4_gather_85 : decode cX4_gather 85 = .ok (.aload_n 0, 1) := by decide +kernel
theorem dX4_gather_86 : decode cX4_gather 86 = .ok (.getfield 31, 3) := by decide +kernel
theorem dX4_gather_89 : decode cX4_gather 89 = .ok (.aload 4, 2) := by decide +kernel
theorem dX4_gather_91 : decode cX4_gather 91 = .ok (.getfield 59, 3) := by decide +kernel
theorem dX4_gather_94 : decode cX4_gather 94 = .ok (.iastore, 1) := by decide +kernel
theorem dX4_gather_95 : decode cX4_gather 95 = .ok (.aload_n 0, 1) := by decide +kernel
theorem dX4_gather_96 : decode cX4_gather 96 = .ok (.dup, 1) := by decide +kernel
theorem dX4_gather_97 : decode cX4_gather 97 = .ok (.getfield 31, 3) := by decide +kernel
theorem dX4_gather_100 : decode cX4_gather 100 = .ok (.iconst 1, 1) := by decide +kernel
theorem dX4_gather_101 : decode cX4_gather 101 = .ok (.iadd, 1) := by decide +kernel
theorem dX4_gather_102 : decode cX4_gather 102 = .ok (.putfield 31, 3) := by decide +kernel
theorem dX4_gather_105 : decode cX4_gather 105 = .ok (.iinc 3 1, 3) := by decide +kernel
theorem dX4_gather_108 : decode cX4_gather 108 = .ok (.goto (-101), 3) := by decide +kernel
theorem dX4_gather_111 : decode cX4_gather 111 = .ok (.aload_n 0, 1) := by decide +kernel
theorem dX4_gather_112 : decode cX4_gather 112 = .ok (.getfield 15, 3) := by decide +kernel
theorem dX4_gather_115 : decode cX4_gather 115 = .ok (.bipush 8, 2) := by decide +kernel
theorem dX4_gather_117 : decode cX4_gather 117 = .ok (.bipush 25, 2) := by decide +kernel
theorem dX4_gather_119 : decode cX4_gather 119 = .ok (.iastore, 1) := by decide +kernel
theorem dX4_gather_120 : decode cX4_gather 120 = .ok (.aload_n 0, 1) := by decide +kernel
theorem dX4_gather_121 : decode cX4_gather 121 = .ok (.getfield 18, 3) := by decide +kernel
theorem dX4_gather_124 : decode cX4_gather 124 = .ok (.bipush 8, 2) := by decide +kernel
theorem dX4_gather_126 : decode cX4_gather 126 = .ok (.bipush 25, 2) := by decide +kernel
theorem dX4_gather_128 : decode cX4_gather 128 = .ok (.iastore, 1) := by decide +kernel
theorem dX4_gather_129 : decode cX4_gather 129 = .ok (.return_, 1) := by decide +kernel
theorem dX4_measure_0 : decode cX4_measure 0 = .ok (.iload_n 1, 1) := by decide +kernel
theorem dX4_measure_1 : decode cX4_measure 1 = .ok (.bipush 9, 2) := by decide +kernel
theorem dX4_measure_3 : decode cX4_measure 3 = .ok (.imul, 1) := by decide +kernel
theorem dX4_measure_4 : decode cX4_measure 4 = .ok (.iload_n 2, 1) := by decide +kernel
theorem dX4_measure_5 : decode cX4_measure 5 = .ok (.iadd, 1) := by decide +kernel
theorem dX4_measure_6 : decode cX4_measure 6 = .ok (.istore_n 3, 1) := by decide +kernel
theorem dX4_measure_7 : decode cX4_measure 7 = .ok (.iload_n 3, 1) := by decide +kernel
theorem dX4_measure_8 : decode cX4_measure 8 = .ok (.ifCond .lt 12, 3) := by decide +kernel
theorem dX4_measure_11 : decode cX4_measure 11 = .ok (.iload_n 3, 1) := by decide +kernel
theorem dX4_measure_12 : decode cX4_measure 12 = .ok (.aload_n 0, 1) := by decide +kernel
theorem dX4_measure_13 : decode cX4_measure 13 = .ok (.getfield 24, 3) := by decide +kernel
theorem dX4_measure_16 : decode cX4_measure 16 = .ok (.arraylength, 1) := by decide +kernel
theorem dX4_measure_17 : decode cX4_measure 17 = .ok (.if_icmp .lt 4, 3) := by decide +kernel
theorem dX4_measure_20 : decode cX4_measure 20 = .ok (.return_, 1) := by decide +kernel
theorem dX4_measure_21 : decode cX4_measure 21 = .ok (.iload_n 1, 1) := by decide +kernel
theorem dX4_measure_22 : decode cX4_measure 22 = .ok (.ifCond .ne 13, 3) := by decide +kernel
theorem dX4_measure_25 : decode cX4_measure 25 = .ok (.aload_n 0, 1) := by decide +kernel
theorem dX4_measure_26 : decode cX4_measure 26 = .ok (.iload_n 2, 1) := by decide +kernel
theorem dX4_measure_27 : decode cX4_measure 27 = .ok (.bipush 8, 2) := by decide +kernel
theorem dX4_measure_29 : decode cX4_measure 29 = .ok (.invokevirtual 62, 3) := by decide +kernel
theorem dX4_measure_32 : decode cX4_measure 32 = .ok (.goto 5, 3) := by decide +kernel
theorem dX4_measure_35 : decode cX4_measure 35 = .ok (.ldc 65, 2) := by decide +kernel
theorem dX4_measure_37 : decode cX4_measure 37 = .ok (.istore 4, 2) := by decide +kernel
theorem dX4_measure_39 : decode cX4_measure 39 = .ok (.iconst 0, 1) := by decide +kernel
theorem dX4_measure_40 : decode cX4_measure 40 = .ok (.istore 5, 2) := by decide +kernel
theorem dX4_measure_42 : decode cX4_measure 42 = .ok (.iload 5, 2) := by decide +kernel
theorem dX4_measure_44 : decode cX4_measure 44 = .ok (.aload_n 0, 1) := by decide +kernel
theorem dX4_measure_45 : decode cX4_measure 45 = .ok (.getfield 31, 3) := by decide +kernel
theorem dX4_measure_48 : decode cX4_measure 48 = .ok (.if_icmp .ge 34, 3) := by decide +kernel
theorem dX4_measure_51 : decode cX4_measure 51 = .ok (.iload_n 1, 1) := by decide +kernel
theorem dX4_measure_52 : decode cX4_measure 52 = .ok (.iload 5, 2) := by decide +kernel
theorem dX4_measure_54 : decode cX4_measure 54 = .ok (.ishr, 1) := by decide +kernel
theorem dX4_measure_55 : decode cX4_measure 55 = .ok (.iconst 1, 1) := by decide +kernel
theorem dX4_measure_56 : decode cX4_measure 56 = .ok (.iand, 1) := by decide +kernel
theorem dX4_measure_57 : decode cX4_measure 57 = .ok (.iconst 1, 1) := by decide +kernel
theorem dX4_measure_58 : decode cX4_measure 58 = .ok (.if_icmp .ne 18, 3) := by decide +kernel
theorem dX4_measure_61 : decode cX4_measure 61 = .ok (.iload 4, 2) := by decide +kernel
theorem dX4_measure_63 : decode cX4_measure 63 = .ok (.aload_n 0, 1) := by decide +kernel
theorem dX4_measure_64 : decode cX4_measure 64 = .ok (.iload_n 1, 1) := by decide +kernel
theorem dX4_measure_65 : decode cX4_measure 65 = .ok (.iload_n 2, 1) := by decide +kernel
theorem dX4_measure_66 : decode cX4_measure 66 = .ok (.iload 5, 2) := by decide +kernel
theorem dX4_measure_68 : decode cX4_measure 68 = .ok (.invokevirtual 66, 3) := by decide +kernel
theorem dX4_measure_71 : decode cX4_measure 71 = .ok (.invokestatic 70, 3) := by decide +kernel
theorem dX4_measure_74 : decode cX4_measure 74 = .ok (.istore 4, 2) := by decide +kernel
theorem dX4_measure_76 : decode cX4_measure 76 = .ok (.iinc 5 1, 3) := by decide +kernel
theorem dX4_measure_79 : decode cX4_measure 79 = .ok (.goto (-37), 3) := by decide +kernel
theorem dX4_measure_82 : decode cX4_measure 82 = .ok (.aload_n 0, 1) := by decide +kernel
theorem dX4_measure_83 : decode cX4_measure 83 = .ok (.getfield 24, 3) := by decide +kernel
theorem dX4_measure_86 : decode cX4_measure 86 = .ok (.iload_n 3, 1) := by decide +kernel
theorem dX4_measure_87 : decode cX4_measure 87 = .ok (.iload 4, 2) := by decide +kernel
theorem dX4_measure_89 : decode cX4_measure 89 = .ok (.iastore, 1) := by decide +kernel
theorem dX4_measure_90 : decode cX4_measure 90 = .ok (.return_, 1) := by decide +kernel
theorem dX4_arrange_0 : decode cX4_arrange 0 = .ok (.iconst 1, 1) := by decide +kernel
theorem dX4_arrange_1 : decode cX4_arrange 1 = .ok (.aload_n 0, 1) := by decide +kernel
theorem dX4_arrange_2 : decode cX4_arrange 2 = .ok (.getfield 31, 3) := by decide +kernel
theorem dX4_arrange_5 : decode cX4_arrange 5 = .ok (.ishl, 1) := by decide +kernel
theorem dX4_arrange_6 : decode cX4_arrange 6 = .ok (.iconst 1, 1) := by decide +kernel
theorem dX4_arrange_7 : decode cX4_arrange 7 = .ok (.isub, 1) := by decide +kernel
theorem dX4_arrange_8 : decode cX4_arrange 8 = .ok (.istore_n 1, 1) := by decide +kernel
theorem dX4_arrange_9 : decode cX4_arrange 9 = .ok (.bipush 8, 2) := by decide +kernel
theorem dX4_arrange_11 : decode cX4_arrange 11 = .ok (.istore_n 2, 1) := by decide +kernel
theorem dX4_arrange_12 : decode cX4_arrange 12 = .ok (.iconst 0, 1) := by decide +kernel
theorem dX4_arrange_13 : decode cX4_arrange 13 = .ok (.istore_n 3, 1) := by decide +kernel
theorem dX4_arrange_14 : decode cX4_arrange 14 = .ok (.iload_n 3, 1) := by decide +kernel
theorem dX4_arrange_15 : decode cX4_arrange 15 = .ok (.aload_n 0, 1) := by decide +kernel
theorem dX4_arrange_16 : decode cX4_arrange 16 = .ok (.getfield 31, 3) := by decide +kernel
theorem dX4_arrange_19 : decode cX4_arrange 19 = .ok (.if_icmp .ge 71, 3) := by decide +kernel
theorem dX4_arrange_22 : decode cX4_arrange 22 = .ok (.iload_n 3, 1) := by decide +kernel
theorem dX4_arrange_23 : decode cX4_arrange 23 = .ok (.aload_n 0, 1) := by decide +kernel
theorem dX4_arrange_24 : decode cX4_arrange 24 = .ok (.getfield 21, 3) := by decide +kernel
theorem dX4_arrange_27 : decode cX4_arrange 27 = .ok (.arraylength, 1) := by decide +kernel
theorem dX4_arrange_28 : decode cX4_arrange 28 = .ok (.if_icmp .ge 62, 3) := by decide +kernel
theorem dX4_arrange_31 : decode cX4_arrange 31 = .ok (.aload_n 0, 1) := by decide +kernel
theorem dX4_arrange_32 : decode cX4_arrange 32 = .ok (.iload_n 1, 1) := by decide +kernel
theorem dX4_arrange_33 : decode cX4_arrange 33 = .ok (.iload_n 2, 1) := by decide +kernel
theorem dX4_arrange_34 : decode cX4_arrange 34 = .ok (.invokevirtual 75, 3) := by decide +kernel
theorem dX4_arrange_37 : decode cX4_arrange 37 = .ok (.istore 4, 2) := by decide +kernel
theorem dX4_arrange_39 : decode cX4_arrange 39 = .ok (.aload_n 0, 1) := by decide +kernel
theorem dX4_arrange_40 : decode cX4_arrange 40 = .ok (.getfield 21, 3) := by decide +kernel
theorem dX4_arrange_43 : decode cX4_arrange 43 = .ok (.iload_n 3, 1) := by decide +kernel
theorem dX4_arrange_44 : decode cX4_arrange 44 = .ok (.iload 4, 2) := by decide +kernel
theorem dX4_arrange_46 : decode cX4_arrange 46 = .ok (.ifCond .lt 13, 3) := by decide +kernel
theorem dX4_arrange_49 : decode cX4_arrange 49 = .ok (.iload 4, 2) := by decide +kernel
theorem dX4_arrange_51 : decode cX4_arrange 51 = .ok (.aload_n 0, 1) := by decide +kernel
theorem dX4_arrange_52 : decode cX4_arrange 52 = .ok (.getfield 9, 3) := by decide +kernel
theorem dX4_arrange_55 : decode cX4_arrange 55 = .ok (.arraylength, 1) := by decide +kernel
theorem dX4_arrange_56 : decode cX4_arrange 56 = .ok (.if_icmp .lt 8, 3) := by decide +kernel
theorem dX4_arrange_59 : decode cX4_arrange 59 = .ok (.ldc 38, 2) := by decide +kernel
theorem dX4_arrange_61 : decode cX4_arrange 61 = .ok (.goto 10, 3) := by decide +kernel
theorem dX4_arrange_64 : decode cX4_arrange 64 = .ok (.aload_n 0, 1) := by decide +kernel
theorem dX4_arrange_65 : decode cX4_arrange 65 = .ok (.getfield 9, 3) := by decide +kernel
theorem dX4_arrange_68 : decode cX4_arrange 68 = .ok (.iload 4, 2) := by decide +kernel
theorem dX4_arrange_70 : decode cX4_arrange 70 = .ok (.iaload, 1) := by decide +kernel
theorem dX4_arrange_71 : decode cX4_arrange 71 = .ok (.iastore, 1) := by decide +kernel
theorem dX4_arrange_72 : decode cX4_arrange 72 = .ok (.iload_n 1, 1) := by decide +kernel
theorem dX4_arrange_73 : decode cX4_arrange 73 = .ok (.iconst 1, 1) := by decide +kernel
theorem dX4_arrange_74 : decode cX4_arrange 74 = .ok (.iload 4, 2) := by decide +kernel
theorem dX4_arrange_76 : decode cX4_arrange 76 = .ok (.ishl, 1) := by decide +kernel
theorem dX4_arrange_77 : decode cX4_arrange 77 = .ok (.iconst (-1), 1) := by decide +kernel
theorem dX4_arrange_78 : decode cX4_arrange 78 = .ok (.ixor, 1) := by decide +kernel
theorem dX4_arrange_79 : decode cX4_arrange 79 = .ok (.iand, 1) := by decide +kernel
theorem dX4_arrange_80 : decode cX4_arrange 80 = .ok (.istore_n 1, 1) := by decide +kernel
theorem dX4_arrange_81 : decode cX4_arrange 81 = .ok (.iload 4, 2) := by decide +kernel
theorem dX4_arrange_83 : decode cX4_arrange 83 = .ok (.istore_n 2, 1) := by decide +kernel
theorem dX4_arrange_84 : decode cX4_arrange 84 = .ok (.iinc 3 1, 3) := by decide +kernel
theorem dX4_arrange_87 : decode cX4_arrange 87 = .ok (.goto (-73), 3) := by decide +kernel
theorem dX4_arrange_90 : decode cX4_arrange 90 = .ok (.return_, 1) := by decide +kernel
theorem dX4_firstNext_0 : decode cX4_firstNext 0 = .ok (.iconst 0, 1) := by decide +kernel
theorem dX4_firstNext_1 : decode cX4_firstNext 1 = .ok (.istore_n 3, 1) := by decide +kernel
theorem dX4_firstNext_2 : decode cX4_firstNext 2 = .ok (.iload_n 3, 1) := by decide +kernel
theorem dX4_firstNext_3 : decode cX4_firstNext 3 = .ok (.aload_n 0, 1) := by decide +kernel
theorem dX4_firstNext_4 : decode cX4_firstNext 4 = .ok (.getfield 31, 3) := by decide +kernel
theorem dX4_firstNext_7 : decode cX4_firstNext 7 = .ok (.if_icmp .ge 36, 3) := by decide +kernel
theorem dX4_firstNext_10 : decode cX4_firstNext 10 = .ok (.iload_n 1, 1) := by decide +kernel
theorem dX4_firstNext_11 : decode cX4_firstNext 11 = .ok (.iload_n 3, 1) := by decide +kernel
theorem dX4_firstNext_12 : decode cX4_firstNext 12 = .ok (.ishr, 1) := by decide +kernel
theorem dX4_firstNext_13 : decode cX4_firstNext 13 = .ok (.iconst 1, 1) := by decide +kernel
theorem dX4_firstNext_14 : decode cX4_firstNext 14 = .ok (.iand, 1) := by decide +kernel
theorem dX4_firstNext_15 : decode cX4_firstNext 15 = .ok (.iconst 1, 1) := by decide +kernel
theorem dX4_firstNext_16 : decode cX4_firstNext 16 = .ok (.if_icmp .ne 21, 3) := by decide +kernel
theorem dX4_firstNext_19 : decode cX4_firstNext 19 = .ok (.aload_n 0, 1) := by decide +kernel
theorem dX4_firstNext_20 : decode cX4_firstNext 20 = .ok (.iload_n 1, 1) := by decide +kernel
theorem dX4_firstNext_21 : decode cX4_firstNext 21 = .ok (.iload_n 2, 1) := by decide +kernel
theorem dX4_firstNext_22 : decode cX4_firstNext 22 = .ok (.iload_n 3, 1) := by decide +kernel
theorem dX4_firstNext_23 : decode cX4_firstNext 23 = .ok (.invokevirtual 66, 3) := by decide +kernel
theorem dX4_firstNext_26 : decode cX4_firstNext 26 = .ok (.aload_n 0, 1) := by decide +kernel
theorem dX4_firstNext_27 : decode cX4_firstNext 27 = .ok (.iload_n 1, 1) := by decide +kernel
theorem dX4_firstNext_28 : decode cX4_firstNext 28 = .ok (.iload_n 2, 1) := by decide +kernel
theorem dX4_firstNext_29 : decode cX4_firstNext 29 = .ok (.invokevirtual 34, 3) := by decide +kernel
theorem dX4_firstNext_32 : decode cX4_firstNext 32 = .ok (.if_icmp .ne 5, 3) := by decide +kernel
theorem dX4_firstNext_35 : decode cX4_firstNext 35 = .ok (.iload_n 3, 1) := by decide +kernel
theorem dX4_firstNext_36 : decode cX4_firstNext 36 = .ok (.ireturn, 1) := by decide +kernel
theorem dX4_firstNext_37 : decode cX4_firstNext 37 = .ok (.iinc 3 1, 3) := by decide +kernel
theorem dX4_firstNext_40 : decode cX4_firstNext 40 = .ok (.goto (-38), 3) := by decide +kernel
theorem dX4_firstNext_43 : decode cX4_firstNext 43 = .ok (.iconst 0, 1) := by decide +kernel
theorem dX4_firstNext_44 : decode cX4_firstNext 44 = .ok (.ireturn, 1) := by decide +kernel
theorem dX4_wayBy_0 : decode cX4_wayBy 0 = .ok (.aload_n 0, 1) := by decide +kernel
theorem dX4_wayBy_1 : decode cX4_wayBy 1 = .ok (.iload_n 2, 1) := by decide +kernel
theorem dX4_wayBy_2 : decode cX4_wayBy 2 = .ok (.iload_n 3, 1) := by decide +kernel
theorem dX4_wayBy_3 : decode cX4_wayBy 3 = .ok (.invokevirtual 62, 3) := by decide +kernel
theorem dX4_wayBy_6 : decode cX4_wayBy 6 = .ok (.aload_n 0, 1) := by decide +kernel
theorem dX4_wayBy_7 : decode cX4_wayBy 7 = .ok (.iload_n 1, 1) := by decide +kernel
theorem dX4_wayBy_8 : decode cX4_wayBy 8 = .ok (.iconst 1, 1) := by decide +kernel
theorem dX4_wayBy_9 : decode cX4_wayBy 9 = .ok (.iload_n 3, 1) := by decide +kernel
theorem dX4_wayBy_10 : decode cX4_wayBy 10 = .ok (.ishl, 1) := by decide +kernel
theorem dX4_wayBy_11 : decode cX4_wayBy 11 = .ok (.iconst (-1), 1) := by decide +kernel
theorem dX4_wayBy_12 : decode cX4_wayBy 12 = .ok (.ixor, 1) := by decide +kernel
theorem dX4_wayBy_13 : decode cX4_wayBy 13 = .ok (.iand, 1) := by decide +kernel
theorem dX4_wayBy_14 : decode cX4_wayBy 14 = .ok (.iload_n 3, 1) := by decide +kernel
theorem dX4_wayBy_15 : decode cX4_wayBy 15 = .ok (.invokevirtual 34, 3) := by decide +kernel
theorem dX4_wayBy_18 : decode cX4_wayBy 18 = .ok (.iadd, 1) := by decide +kernel
theorem dX4_wayBy_19 : decode cX4_wayBy 19 = .ok (.ireturn, 1) := by decide +kernel
theorem dX4_leastAt_0 : decode cX4_leastAt 0 = .ok (.iload_n 1, 1) := by decide +kernel
theorem dX4_leastAt_1 : decode cX4_leastAt 1 = .ok (.bipush 9, 2) := by decide +kernel
theorem dX4_leastAt_3 : decode cX4_leastAt 3 = .ok (.imul, 1) := by decide +kernel
theorem dX4_leastAt_4 : decode cX4_leastAt 4 = .ok (.iload_n 2, 1) := by decide +kernel
theorem dX4_leastAt_5 : decode cX4_leastAt 5 = .ok (.iadd, 1) := by decide +kernel
theorem dX4_leastAt_6 : decode cX4_leastAt 6 = .ok (.istore_n 3, 1) := by decide +kernel
theorem dX4_leastAt_7 : decode cX4_leastAt 7 = .ok (.iload_n 3, 1) := by decide +kernel
theorem dX4_leastAt_8 : decode cX4_leastAt 8 = .ok (.ifCond .lt 12, 3) := by decide +kernel
theorem dX4_leastAt_11 : decode cX4_leastAt 11 = .ok (.iload_n 3, 1) := by decide +kernel
theorem dX4_leastAt_12 : decode cX4_leastAt 12 = .ok (.aload_n 0, 1) := by decide +kernel
theorem dX4_leastAt_13 : decode cX4_leastAt 13 = .ok (.getfield 24, 3) := by decide +kernel
theorem dX4_leastAt_16 : decode cX4_leastAt 16 = .ok (.arraylength, 1) := by decide +kernel
theorem dX4_leastAt_17 : decode cX4_leastAt 17 = .ok (.if_icmp .lt 8, 3) := by decide +kernel
theorem dX4_leastAt_20 : decode cX4_leastAt 20 = .ok (.ldc 65, 2) := by decide +kernel
theorem dX4_leastAt_22 : decode cX4_leastAt 22 = .ok (.goto 9, 3) := by decide +kernel
theorem dX4_leastAt_25 : decode cX4_leastAt 25 = .ok (.aload_n 0, 1) := by decide +kernel
theorem dX4_leastAt_26 : decode cX4_leastAt 26 = .ok (.getfield 24, 3) := by decide +kernel
theorem dX4_leastAt_29 : decode cX4_leastAt 29 = .ok (.iload_n 3, 1) := by decide +kernel
theorem dX4_leastAt_30 : decode cX4_leastAt 30 = .ok (.iaload, 1) := by decide +kernel
theorem dX4_leastAt_31 : decode cX4_leastAt 31 = .ok (.ireturn, 1) := by decide +kernel
theorem dX4_between_0 : decode cX4_between 0 = .ok (.iload_n 1, 1) := by decide +kernel
theorem dX4_between_1 : decode cX4_between 1 = .ok (.iconst 0, 1) := by decide +kernel
theorem dX4_between_2 : decode cX4_between 2 = .ok (.bipush 8, 2) := by decide +kernel
theorem dX4_between_4 : decode cX4_between 4 = .ok (.invokestatic 78, 3) := by decide +kernel
theorem dX4_between_7 : decode cX4_between 7 = .ok (.ifCond .ne 13, 3) := by decide +kernel
theorem dX4_between_10 : decode cX4_between 10 = .ok (.iload_n 2, 1) := by decide +kernel
theorem dX4_between_11 : decode cX4_between 11 = .ok (.iconst 0, 1) := by decide +kernel
theorem dX4_between_12 : decode cX4_between 12 = .ok (.bipush 8, 2) := by decide +kernel
theorem dX4_between_14 : decode cX4_between 14 = .ok (.invokestatic 78, 3) := by decide +kernel
theorem dX4_between_17 : decode cX4_between 17 = .ok (.ifCond .eq 6, 3) := by decide +kernel
theorem dX4_between_20 : decode cX4_between 20 = .ok (.ldc 65, 2) := by decide +kernel
theorem dX4_between_22 : decode cX4_between 22 = .ok (.ireturn, 1) := by decide +kernel
theorem dX4_between_23 : decode cX4_between 23 = .ok (.aload_n 0, 1) := by decide +kernel
theorem dX4_between_24 : decode cX4_between 24 = .ok (.getfield 15, 3) := by decide +kernel
theorem dX4_between_27 : decode cX4_between 27 = .ok (.iload_n 1, 1) := by decide +kernel
theorem dX4_between_28 : decode cX4_between 28 = .ok (.iaload, 1) := by decide +kernel
theorem dX4_between_29 : decode cX4_between 29 = .ok (.aload_n 0, 1) := by decide +kernel
theorem dX4_between_30 : decode cX4_between 30 = .ok (.getfield 15, 3) := by decide +kernel
theorem dX4_between_33 : decode cX4_between 33 = .ok (.iload_n 2, 1) := by decide +kernel
theorem dX4_between_34 : decode cX4_between 34 = .ok (.iaload, 1) := by decide +kernel
theorem dX4_between_35 : decode cX4_between 35 = .ok (.isub, 1) := by decide +kernel
theorem dX4_between_36 : decode cX4_between 36 = .ok (.invokestatic 82, 3) := by decide +kernel
theorem dX4_between_39 : decode cX4_between 39 = .ok (.aload_n 0, 1) := by decide +kernel
theorem dX4_between_40 : decode cX4_between 40 = .ok (.getfield 18, 3) := by decide +kernel
theorem dX4_between_43 : decode cX4_between 43 = .ok (.iload_n 1, 1) := by decide +kernel
theorem dX4_between_44 : decode cX4_between 44 = .ok (.iaload, 1) := by decide +kernel
theorem dX4_between_45 : decode cX4_between 45 = .ok (.aload_n 0, 1) := by decide +kernel
theorem dX4_between_46 : decode cX4_between 46 = .ok (.getfield 18, 3) := by decide +kernel
theorem dX4_between_49 : decode cX4_between 49 = .ok (.iload_n 2, 1) := by decide +kernel
theorem dX4_between_50 : decode cX4_between 50 = .ok (.iaload, 1) := by decide +kernel
theorem dX4_between_51 : decode cX4_between 51 = .ok (.isub, 1) := by decide +kernel
theorem dX4_between_52 : decode cX4_between 52 = .ok (.invokestatic 82, 3) := by decide +kernel
theorem dX4_between_55 : decode cX4_between 55 = .ok (.iadd, 1) := by decide +kernel
theorem dX4_between_56 : decode cX4_between 56 = .ok (.ireturn, 1) := by decide +kernel
end
section
theorem dX5_init_0 : decode cX5_init 0 = .ok (.aload_n 0, 1) := by decide +kernel
theorem dX5_init_1 : decode cX5_init 1 = .ok (.invokespecial 1, 3) := by decide +kernel
theorem dX5_init_4 : decode cX5_init 4 = .ok (.aload_n 0, 1) := by decide +kernel
theorem dX5_init_5 : decode cX5_init 5 = .ok (.bipush 24, 2) := by decide +kernel
theorem dX5_init_7 : decode cX5_init 7 = .ok (.anewarray 9, 3) := by decide +kernel
theorem dX5_init_10 : decode cX5_init 10 = .ok (.putfield 11, 3) := by decide +kernel
theorem dX5_init_13 : decode cX5_init 13 = .ok (.aload_n 0, 1) := by decide +kernel
theorem dX5_init_14 : decode cX5_init 14 = .ok (.new 15, 3) := by decide +kernel
theorem dX5_init_17 : decode cX5_init 17 = .ok (.dup, 1) := by decide +kernel
theorem dX5_init_18 : decode cX5_init 18 = .ok (.invokespecial 17, 3) := by decide +kernel
theorem dX5_init_21 : decode cX5_init 21 = .ok (.putfield 18, 3) := by decide +kernel
theorem dX5_init_24 : decode cX5_init 24 = .ok (.aload_n 0, 1) := by decide +kernel
theorem dX5_init_25 : decode cX5_init 25 = .ok (.new 22, 3) := by decide +kernel
theorem dX5_init_28 : decode cX5_init 28 = .ok (.dup, 1) := by decide +kernel
theorem dX5_init_29 : decode cX5_init 29 = .ok (.invokespecial 24, 3) := by decide +kernel
theorem dX5_init_32 : decode cX5_init 32 = .ok (.putfield 25, 3) := by decide +kernel
theorem dX5_init_35 : decode cX5_init 35 = .ok (.aload_n 0, 1) := by decide +kernel
theorem dX5_init_36 : decode cX5_init 36 = .ok (.new 29, 3) := by decide +kernel
theorem dX5_init_39 : decode cX5_init 39 = .ok (.dup, 1) := by decide +kernel
theorem dX5_init_40 : decode cX5_init 40 = .ok (.invokespecial 31, 3) := by decide +kernel
theorem dX5_init_43 : decode cX5_init 43 = .ok (.putfield 32, 3) := by decide +kernel
theorem dX5_init_46 : decode cX5_init 46 = .ok (.aload_n 0, 1) := by decide +kernel
theorem dX5_init_47 : decode cX5_init 47 = .ok (.iconst 0, 1) := by decide +kernel
theorem dX5_init_48 : decode cX5_init 48 = .ok (.putfield 36, 3) := by decide +kernel
theorem dX5_init_51 : decode cX5_init 51 = .ok (.aload_n 0, 1) := by decide +kernel
theorem dX5_init_52 : decode cX5_init 52 = .ok (.iconst 0, 1) := by decide +kernel
theorem dX5_init_53 : decode cX5_init 53 = .ok (.putfield 40, 3) := by decide +kernel
theorem dX5_init_56 : decode cX5_init 56 = .ok (.aload_n 0, 1) := by decide +kernel
theorem dX5_init_57 : decode cX5_init 57 = .ok (.iconst 3, 1) := by decide +kernel
theorem dX5_init_58 : decode cX5_init 58 = .ok (.putfield 43, 3) := by decide +kernel
theorem dX5_init_61 : decode cX5_init 61 = .ok (.aload_n 0, 1) := by decide +kernel
theorem dX5_init_62 : decode cX5_init 62 = .ok (.bipush 20, 2) := by decide +kernel
theorem dX5_init_64 : decode cX5_init 64 = .ok (.putfield 46, 3) := by decide +kernel
theorem dX5_init_67 : decode cX5_init 67 = .ok (.aload_n 0, 1) := by decide +kernel
theorem dX5_init_68 : decode cX5_init 68 = .ok (.sipush 3000, 3) := by decide +kernel
theorem dX5_init_71 : decode cX5_init 71 = .ok (.putfield 49, 3) := by decide +kernel
theorem dX5_init_74 : decode cX5_init 74 = .ok (.aload_n 0, 1) := by decide +kernel
theorem dX5_init_75 : decode cX5_init 75 = .ok (.bipush 100, 2) := by decide +kernel
theorem dX5_init_77 : decode cX5_init 77 = .ok (.putfield 52, 3) := by decide +kernel
theorem dX5_init_80 : decode cX5_init 80 = .ok (.aload_n 0, 1) := by decide +kernel
theorem dX5_init_81 : decode cX5_init 81 = .ok (.iconst 0, 1) := by decide +kernel
theorem dX5_init_82 : decode cX5_init 82 = .ok (.putfield 55, 3) := by decide +kernel
theorem dX5_init_85 : decode cX5_init 85 = .ok (.aload_n 0, 1) := by decide +kernel
theorem dX5_init_86 : decode cX5_init 86 = .ok (.lconst 0, 1) := by decide +kernel
theorem dX5_init_87 : decode cX5_init 87 = .ok (.putfield 58, 3) := by decide +kernel
theorem dX5_init_90 : decode cX5_init 90 = .ok (.aload_n 0, 1) := by decide +kernel
theorem dX5_init_91 : decode cX5_init 91 = .ok (.lconst 0, 1) := by decide +kernel
theorem dX5_init_92 : decode cX5_init 92 = .ok (.putfield 62, 3) := by decide +kernel
theorem dX5_init_95 : decode cX5_init 95 = .ok (.aload_n 0, 1) := by decide +kernel
theorem dX5_init_96 : decode cX5_init 96 = .ok (.lconst 0, 1) := by decide +kernel
theorem dX5_init_97 : decode cX5_init 97 = .ok (.putfield 65, 3) := by decide +kernel
theorem dX5_init_100 : decode cX5_init 100 = .ok (.return_, 1) := by decide +kernel
theorem dX5_house_0 : decode cX5_house 0 = .ok (.iload_n 1, 1) := by decide +kernel
theorem dX5_house_1 : decode cX5_house 1 = .ok (.iconst 0, 1) := by decide +kernel
theorem dX5_house_2 : decode cX5_house 2 = .ok (.bipush 50, 2) := by decide +kernel
theorem dX5_house_4 : decode cX5_house 4 = .ok (.invokestatic 68, 3) := by decide +kernel
theorem dX5_house_7 : decode cX5_house 7 = .ok (.ifCond .ne 13, 3) := by decide +kernel
theorem dX5_house_10 : decode cX5_house 10 = .ok (.iload_n 2, 1) := by decide +kernel
theorem dX5_house_11 : decode cX5_house 11 = .ok (.iconst 0, 1) := by decide +kernel
theorem dX5_house_12 : decode cX5_house 12 = .ok (.bipush 50, 2) := by decide +kernel
theorem dX5_house_14 : decode cX5_house 14 = .ok (.invokestatic 68, 3) := by decide +kernel
theorem dX5_house_17 : decode cX5_house 17 = .ok (.ifCond .eq 6, 3) := by decide +kernel
theorem dX5_house_20 : decode cX5_house 20 = .ok (.ldc 72, 2) := by decide +kernel
theorem dX5_house_22 : decode cX5_house 22 = .ok (.ireturn, 1) := by decide +kernel
theorem dX5_house_23 : decode cX5_house 23 = .ok (.iload_n 3, 1) := by decide +kernel
theorem dX5_house_24 : decode cX5_house 24 = .ok (.bipush 100, 2) := by decide +kernel
theorem dX5_house_26 : decode cX5_house 26 = .ok (.sipush 5000, 3) := by decide +kernel
theorem dX5_house_29 : decode cX5_house 29 = .ok (.invokestatic 68, 3) := by decide +kernel
theorem dX5_house_32 : decode cX5_house 32 = .ok (.ifCond .eq 6, 3) := by decide +kernel
theorem dX5_house_35 : decode cX5_house 35 = .ok (.ldc 72, 2) := by decide +kernel
theorem dX5_house_37 : decode cX5_house 37 = .ok (.ireturn, 1) := by decide +kernel
theorem dX5_house_38 : decode cX5_house 38 = .ok (.aload_n 0, 1) := by decide +kernel
theorem dX5_house_39 : decode cX5_house 39 = .ok (.getfield 36, 3) := by decide +kernel
theorem dX5_house_42 : decode cX5_house 42 = .ok (.ifCond .lt 15, 3) := by decide +kernel
theorem dX5_house_45 : decode cX5_house 45 = .ok (.aload_n 0, 1) := by decide +kernel
theorem dX5_house_46 : decode cX5_house 46 = .ok (.getfield 36, 3) := by decide +kernel
theorem dX5_house_49 : decode cX5_house 49 = .ok (.aload_n 0, 1) := by decide +kernel
theorem dX5_house_50 : decode cX5_house 50 = .ok (.getfield 11, 3) := by decide +kernel
theorem dX5_house_53 : decode cX5_house 53 = .ok (.arraylength, 1) := by decide +kernel
theorem dX5_house_54 : decode cX5_house 54 = .ok (.if_icmp .lt 6, 3) := by decide +kernel
theorem dX5_house_57 : decode cX5_house 57 = .ok (.ldc 73, 2) := by decide +kernel
theorem dX5_house_59 : decode cX5_house 59 = .ok (.ireturn, 1) := by decide +kernel
theorem dX5_house_60 : decode cX5_house 60 = .ok (.aload_n 0, 1) := by decide +kernel
theorem dX5_house_61 : decode cX5_house 61 = .ok (.getfield 36, 3) := by decide +kernel
theorem dX5_house_64 : decode cX5_house 64 = .ok (.istore 4, 2) := by decide +kernel
theorem dX5_house_66 : decode cX5_house 66 = .ok (.aload_n 0, 1) := by decide +kernel
theorem dX5_house_67 : decode cX5_house 67 = .ok (.getfield 11, 3) := by decide +kernel
theorem dX5_house_70 : decode cX5_house 70 = .ok (.iload 4, 2) := by decide +kernel
theorem dX5_house_72 : decode cX5_house 72 = .ok (.new 9, 3) := by decide +kernel
theorem dX5_house_75 : decode cX5_house 75 = .ok (.dup, 1) := by decide +kernel
theorem dX5_house_76 : decode cX5_house 76 = .ok (.iload_n 1, 1) := by decide +kernel
theorem dX5_house_77 : decode cX5_house 77 = .ok (.iload_n 2, 1) := by decide +kernel
theorem dX5_house_78 : decode cX5_house 78 = .ok (.iload_n 3, 1) := by decide +kernel
theorem dX5_house_79 : decode cX5_house 79 = .ok (.invokespecial 74, 3) := by decide +kernel
theorem dX5_house_82 : decode cX5_house 82 = .ok (.aastore, 1) := by decide +kernel
theorem dX5_house_83 : decode cX5_house 83 = .ok (.aload_n 0, 1) := by decide +kernel
theorem dX5_house_84 : decode cX5_house 84 = .ok (.dup, 1) := by decide +kernel
theorem dX5_house_85 : decode cX5_house 85 = .ok (.getfield 36, 3) := by decide +kernel
theorem dX5_house_88 : decode cX5_house 88 = .ok (.iconst 1, 1) := by decide +kernel
theorem dX5_house_89 : decode cX5_house 89 = .ok (.iadd, 1) := by decide +kernel
theorem dX5_house_90 : decode cX5_house 90 = .ok (.putfield 36, 3) := by decide +kernel
theorem dX5_house_93 : decode cX5_house 93 = .ok (.iload 4, 2) := by decide +kernel
theorem dX5_house_95 : decode cX5_house 95 = .ok (.ireturn, 1) := by decide +kernel
theorem dX5_prior_0 : decode cX5_prior 0 = .ok (.aload_n 0, 1) := by decide +kernel
theorem dX5_prior_1 : decode cX5_prior 1 = .ok (.iload_n 1, 1) := by decide +kernel
theorem dX5_prior_2 : decode cX5_prior 2 = .ok (.invokevirtual 77, 3) := by decide +kernel
theorem dX5_prior_5 : decode cX5_prior 5 = .ok (.astore 6, 2) := by decide +kernel
theorem dX5_prior_7 : decode cX5_prior 7 = .ok (.aload 6, 2) := by decide +kernel
theorem dX5_prior_9 : decode cX5_prior 9 = .ok (.ifnonnull 6, 3) := by decide +kernel
theorem dX5_prior_12 : decode cX5_prior 12 = .ok (.ldc 72, 2) := by decide +kernel
theorem dX5_prior_14 : decode cX5_prior 14 = .ok (.ireturn, 1) := by decide +kernel
theorem dX5_prior_15 : decode cX5_prior 15 = .ok (.iload_n 2, 1) := by decide +kernel
theorem dX5_prior_16 : decode cX5_prior 16 = .ok (.iconst 0, 1) := by decide +kernel
theorem dX5_prior_17 : decode cX5_prior 17 = .ok (.bipush 50, 2) := by decide +kernel
theorem dX5_prior_19 : decode cX5_prior 19 = .ok (.invokestatic 68, 3) := by decide +kernel
theorem dX5_prior_22 : decode cX5_prior 22 = .ok (.ifCond .ne 13, 3) := by decide +kernel
theorem dX5_prior_25 : decode cX5_prior 25 = .ok (.iload_n 3, 1) := by decide +kernel
theorem dX5_prior_26 : decode cX5_prior 26 = .ok (.iconst 0, 1) := by decide +kernel
theorem dX5_prior_27 : decode cX5_prior 27 = .ok (.bipush 50, 2) := by decide +kernel
theorem dX5_prior_29 : decode cX5_prior 29 = .ok (.invokestatic 68, 3) := by decide +kernel
theorem dX5_prior_32 : decode cX5_prior 32 = .ok (.ifCond .eq 6, 3) := by decide +kernel
theorem dX5_prior_35 : decode cX5_prior 35 = .ok (.ldc 72, 2) := by decide +kernel
theorem dX5_prior_37 : decode cX5_prior 37 = .ok (.ireturn, 1) := by decide +kernel
theorem dX5_prior_38 : decode cX5_prior 38 = .ok (.iload 4, 2) := by decide +kernel
theorem dX5_prior_40 : decode cX5_prior 40 = .ok (.iload_n 2, 1) := by decide +kernel
theorem dX5_prior_41 : decode cX5_prior 41 = .ok (.bipush 50, 2) := by decide +kernel
theorem dX5_prior_43 : decode cX5_prior 43 = .ok (.invokestatic 68, 3) := by decide +kernel
theorem dX5_prior_46 : decode cX5_prior 46 = .ok (.ifCond .ne 14, 3) := by decide +kernel
theorem dX5_prior_49 : decode cX5_prior 49 = .ok (.iload 5, 2) := by decide +kernel
theorem dX5_prior_51 : decode cX5_prior 51 = .ok (.iload_n 3, 1) := by decide +kernel
theorem dX5_prior_52 : decode cX5_prior 52 = .ok (.bipush 50, 2) := by decide +kernel
theorem dX5_prior_54 : decode cX5_prior 54 = .ok (.invokestatic 68, 3) := by decide +kernel
theorem dX5_prior_57 : decode cX5_prior 57 = .ok (.ifCond .eq 6, 3) := by decide +kernel
theorem dX5_prior_60 : decode cX5_prior 60 = .ok (.ldc 72, 2) := by decide +kernel
theorem dX5_prior_62 : decode cX5_prior 62 = .ok (.ireturn, 1) := by decide +kernel
theorem dX5_prior_63 : decode cX5_prior 63 = .ok (.aload 6, 2) := by decide +kernel
theorem dX5_prior_65 : decode cX5_prior 65 = .ok (.getfield 81, 3) := by decide +kernel
theorem dX5_prior_68 : decode cX5_prior 68 = .ok (.ifCond .gt 11, 3) := by decide +kernel
theorem dX5_prior_71 : decode cX5_prior 71 = .ok (.aload 6, 2) := by decide +kernel
theorem dX5_prior_73 : decode cX5_prior 73 = .ok (.getfield 84, 3) := by decide +kernel
theorem dX5_prior_76 : decode cX5_prior 76 = .ok (.ifCond .le 6, 3) := by decide +kernel
theorem dX5_prior_79 : decode cX5_prior 79 = .ok (.ldc 87, 2) := by decide +kernel
theorem dX5_prior_81 : decode cX5_prior 81 = .ok (.ireturn, 1) := by decide +kernel
theorem dX5_prior_82 : decode cX5_prior 82 = .ok (.aload 6, 2) := by decide +kernel
theorem dX5_prior_84 : decode cX5_prior 84 = .ok (.iload_n 2, 1) := by decide +kernel
theorem dX5_prior_85 : decode cX5_prior 85 = .ok (.putfield 88, 3) := by decide +kernel
theorem dX5_prior_88 : decode cX5_prior 88 = .ok (.aload 6, 2) := by decide +kernel
theorem dX5_prior_90 : decode cX5_prior 90 = .ok (.iload_n 3, 1) := by decide +kernel
theorem dX5_prior_91 : decode cX5_prior 91 = .ok (.putfield 91, 3) := by decide +kernel
theorem dX5_prior_94 : decode cX5_prior 94 = .ok (.aload 6, 2) := by decide +kernel
theorem dX5_prior_96 : decode cX5_prior 96 = .ok (.iload 4, 2) := by decide +kernel
theorem dX5_prior_98 : decode cX5_prior 98 = .ok (.putfield 94, 3) := by decide +kernel
theorem dX5_prior_101 : decode cX5_prior 101 = .ok (.aload 6, 2) := by decide +kernel
theorem dX5_prior_103 : decode cX5_prior 103 = .ok (.iload 5, 2) := by decide +kernel
theorem dX5_prior_105 : decode cX5_prior 105 = .ok (.putfield 97, 3) := by decide +kernel
theorem dX5_prior_108 : decode cX5_prior 108 = .ok (.iconst 1, 1) := by decide +kernel
theorem dX5_prior_109 : decode cX5_prior 109 = .ok (.ireturn, 1) := by decide +kernel
theorem dX5_day_0 : decode cX5_day 0 = .ok (.iload_n 1, 1) := by decide +kernel
theorem dX5_day_1 : decode cX5_day 1 = .ok (.iconst 0, 1) := by decide +kernel
theorem dX5_day_2 : decode cX5_day 2 = .ok (.bipush 40, 2) := by decide +kernel
theorem dX5_day_4 : decode cX5_day 4 = .ok (.invokestatic 68, 3) := by decide +kernel
theorem dX5_day_7 : decode cX5_day 7 = .ok (.ifCond .eq 6, 3) := by decide +kernel
theorem dX5_day_10 : decode cX5_day 10 = .ok (.ldc 72, 2) := by decide +kernel
theorem dX5_day_12 : decode cX5_day 12 = .ok (.ireturn, 1) := by decide +kernel
theorem dX5_day_13 : decode cX5_day 13 = .ok (.aload_n 0, 1) := by decide +kernel
theorem dX5_day_14 : decode cX5_day 14 = .ok (.getfield 40, 3) := by decide +kernel
theorem dX5_day_17 : decode cX5_day 17 = .ok (.sipush 20000, 3) := by decide +kernel
theorem dX5_day_20 : decode cX5_day 20 = .ok (.if_icmp .lt 6, 3) := by decide +kernel
theorem dX5_day_23 : decode cX5_day 23 = .ok (.ldc 87, 2) := by decide +kernel
theorem dX5_day_25 : decode cX5_day 25 = .ok (.ireturn, 1) := by decide +kernel
theorem dX5_day_26 : decode cX5_day 26 = .ok (.aload_n 0, 1) := by decide +kernel
theorem dX5_day_27 : decode cX5_day 27 = .ok (.dup, 1) := by decide +kernel
theorem dX5_day_28 : decode cX5_day 28 = .ok (.getfield 40, 3) := by decide +kernel
theorem dX5_day_31 : decode cX5_day 31 = .ok (.iconst 1, 1) := by decide +kernel
theorem dX5_day_32 : decode cX5_day 32 = .ok (.iadd, 1) := by decide +kernel
theorem dX5_day_33 : decode cX5_day 33 = .ok (.putfield 40, 3) := by decide +kernel
theorem dX5_day_36 : decode cX5_day 36 = .ok (.iconst 0, 1) := by decide +kernel
theorem dX5_day_37 : decode cX5_day 37 = .ok (.istore_n 2, 1) := by decide +kernel
theorem dX5_day_38 : decode cX5_day 38 = .ok (.aload_n 0, 1) := by decide +kernel
theorem dX5_day_39 : decode cX5_day 39 = .ok (.getfield 11, 3) := by decide +kernel
theorem dX5_day_42 : decode cX5_day 42 = .ok (.astore_n 3, 1) := by decide +kernel
theorem dX5_day_43 : decode cX5_day 43 = .ok (.aload_n 3, 1) := by decide +kernel
theorem dX5_day_44 : decode cX5_day 44 = .ok (.arraylength, 1) := by decide +kernel
theorem dX5_day_45 : decode cX5_day 45 = .ok (.istore 4, 2) := by decide +kernel
theorem dX5_day_47 : decode cX5_day 47 = .ok (.iconst 0, 1) := by decide +kernel
theorem dX5_day_48 : decode cX5_day 48 = .ok (.istore 5, 2) := by decide +kernel
theorem dX5_day_50 : decode cX5_day 50 = .ok (.iload 5, 2) := by decide +kernel
theorem dX5_day_52 : decode cX5_day 52 = .ok (.iload 4, 2) := by decide +kernel
theorem dX5_day_54 : decode cX5_day 54 = .ok (.if_icmp .ge 40, 3) := by decide +kernel
theorem dX5_day_57 : decode cX5_day 57 = .ok (.aload_n 3, 1) := by decide +kernel
theorem dX5_day_58 : decode cX5_day 58 = .ok (.iload 5, 2) := by decide +kernel
theorem dX5_day_60 : decode cX5_day 60 = .ok (.aaload, 1) := by decide +kernel
theorem dX5_day_61 : decode cX5_day 61 = .ok (.astore 6, 2) := by decide +kernel
theorem dX5_day_63 : decode cX5_day 63 = .ok (.aload 6, 2) := by decide +kernel
theorem dX5_day_65 : decode cX5_day 65 = .ok (.ifnonnull 6, 3) := by decide +kernel
theorem dX5_day_68 : decode cX5_day 68 = .ok (.goto 20, 3) := by decide +kernel
theorem dX5_day_71 : decode cX5_day 71 = .ok (.aload 6, 2) := by decide +kernel
theorem dX5_day_73 : decode cX5_day 73 = .ok (.iload_n 1, 1) := by decide +kernel
theorem dX5_day_74 : decode cX5_day 74 = .ok (.invokevirtual 100, 3) := by decide +kernel
theorem dX5_day_77 : decode cX5_day 77 = .ok (.aload 6, 2) := by decide +kernel
theorem dX5_day_79 : decode cX5_day 79 = .ok (.invokevirtual 104, 3) := by decide +kernel
theorem dX5_day_82 : decode cX5_day 82 = .ok (.ifCond .ne 6, 3) := by decide +kernel
theorem dX5_day_85 : decode cX5_day 85 = .ok (.iinc 2 1, 3) := by decide +kernel
theorem dX5_day_88 : decode cX5_day 88 = .ok (.iinc 5 1, 3) := by decide +kernel
theorem dX5_day_91 : decode cX5_day 91 = .ok (.goto (-41), 3) := by decide +kernel
theorem dX5_day_94 : decode cX5_day 94 = .ok (.iload_n 2, 1) := by decide +kernel
theorem dX5_day_95 : decode cX5_day 95 = .ok (.ireturn, 1) := by decide +kernel
theorem dX5_look_0 : decode cX5_look 0 = .ok (.iload_n 1, 1) := by decide +kernel
theorem dX5_look_1 : decode cX5_look 1 = .ok (.iconst 0, 1) := by decide +kernel
theorem dX5_look_2 : decode cX5_look 2 = .ok (.bipush 10, 2) := by decide +kernel
theorem dX5_look_4 : decode cX5_look 4 = .ok (.invokestatic 68, 3) := by decide +kernel
theorem dX5_look_7 : decode cX5_look 7 = .ok (.ifCond .ne 13, 3) := by decide +kernel
theorem dX5_look_10 : decode cX5_look 10 = .ok (.iload_n 2, 1) := by decide +kernel
theorem dX5_look_11 : decode cX5_look 11 = .ok (.iconst 0, 1) := by decide +kernel
theorem dX5_look_12 : decode cX5_look 12 = .ok (.bipush 40, 2) := by decide +kernel
theorem dX5_look_14 : decode cX5_look 14 = .ok (.invokestatic 68, 3) := by decide +kernel
theorem dX5_look_17 : decode cX5_look 17 = .ok (.ifCond .eq 6, 3) := by decide +kernel
theorem dX5_look_20 : decode cX5_look 20 = .ok (.ldc 72, 2) := by decide +kernel
theorem dX5_look_22 : decode cX5_look 22 = .ok (.ireturn, 1) := by decide +kernel
theorem dX5_look_23 : decode cX5_look 23 = .ok (.aload_n 0, 1) := by decide +kernel
theorem dX5_look_24 : decode cX5_look 24 = .ok (.iload_n 1, 1) := by decide +kernel
theorem dX5_look_25 : decode cX5_look 25 = .ok (.putfield 43, 3) := by decide +kernel
theorem dX5_look_28 : decode cX5_look 28 = .ok (.aload_n 0, 1) := by decide +kernel
theorem dX5_look_29 : decode cX5_look 29 = .ok (.iload_n 2, 1) := by decide +kernel
theorem dX5_look_30 : decode cX5_look 30 = .ok (.putfield 46, 3) := by decide +kernel
theorem dX5_look_33 : decode cX5_look 33 = .ok (.aload_n 0, 1) := by decide +kernel
theorem dX5_look_34 : decode cX5_look 34 = .ok (.invokevirtual 108, 3) := by decide +kernel
theorem dX5_look_37 : decode cX5_look 37 = .ok (.ireturn, 1) := by decide +kernel
theorem dX5_told_0 : decode cX5_told 0 = .ok (.aload_n 0, 1) := by decide +kernel
theorem dX5_told_1 : decode cX5_told 1 = .ok (.iload_n 1, 1) := by decide +kernel
theorem dX5_told_2 : decode cX5_told 2 = .ok (.invokevirtual 77, 3) := by decide +kernel
theorem dX5_told_5 : decode cX5_told 5 = .ok (.astore_n 3, 1) := by decide +kernel
theorem dX5_told_6 : decode cX5_told 6 = .ok (.aload_n 3, 1) := by decide +kernel
theorem dX5_told_7 : decode cX5_told 7 = .ok (.ifnonnull 6, 3) := by decide +kernel
theorem dX5_told_10 : decode cX5_told 10 = .ok (.ldc 72, 2) := by decide +kernel
theorem dX5_told_12 : decode cX5_told 12 = .ok (.ireturn, 1) := by decide +kernel
theorem dX5_told_13 : decode cX5_told 13 = .ok (.iload_n 2, 1) := by decide +kernel
theorem dX5_told_14 : decode cX5_told 14 = .ok (.tableswitch 129 0 10 #[58, 63, 68, 73, 78, 83, 88, 109, 114, 119, 124], 58) := by decide +kernel
theorem dX5_told_72 : decode cX5_told 72 = .ok (.aload_n 3, 1) := by decide +kernel
theorem dX5_told_73 : decode cX5_told 73 = .ok (.getfield 88, 3) := by decide +kernel
theorem dX5_told_76 : decode cX5_told 76 = .ok (.ireturn, 1) := by decide +kernel
theorem dX5_told_77 : decode cX5_told 77 = .ok (.aload_n 3, 1) := by decide +kernel
theorem dX5_told_78 : decode cX5_told 78 = .ok (.getfield 91, 3) := by decide +kernel
theorem dX5_told_81 : decode cX5_told 81 = .ok (.ireturn, 1) := by decide +kernel
theorem dX5_told_82 : decode cX5_told 82 = .ok (.aload_n 3, 1) := by decide +kernel
theorem dX5_told_83 : decode cX5_told 83 = .ok (.getfield 94, 3) := by decide +kernel
theorem dX5_told_86 : decode cX5_told 86 = .ok (.ireturn, 1) := by decide +kernel
theorem dX5_told_87 : decode cX5_told 87 = .ok (.aload_n 3, 1) := by decide +kernel
theorem dX5_told_88 : decode cX5_told 88 = .ok (.getfield 97, 3) := by decide +kernel
theorem dX5_told_91 : decode cX5_told 91 = .ok (.ireturn, 1) := by decide +kernel
theorem dX5_told_92 : decode cX5_told 92 = .ok (.aload_n 3, 1) := by decide +kernel
theorem dX5_told_93 : decode cX5_told 93 = .ok (.getfield 112, 3) := by decide +kernel
theorem dX5_told_96 : decode cX5_told 96 = .ok (.ireturn, 1) := by decide +kernel
theorem dX5_told_97 : decode cX5_told 97 = .ok (.aload_n 3, 1) := by decide +kernel
theorem dX5_told_98 : decode cX5_told 98 = .ok (.getfield 115, 3) := by decide +kernel
theorem dX5_told_101 : decode cX5_told 101 = .ok (.ireturn, 1) := by decide +kernel
theorem dX5_told_102 : decode cX5_told 102 = .ok (.aload_n 3, 1) := by decide +kernel
theorem dX5_told_103 : decode cX5_told 103 = .ok (.aload_n 0, 1) := by decide +kernel
theorem dX5_told_104 : decode cX5_told 104 = .ok (.getfield 43, 3) := by decide +kernel
theorem dX5_told_107 : decode cX5_told 107 = .ok (.aload_n 0, 1) := by decide +kernel
theorem dX5_told_108 : decode cX5_told 108 = .ok (.getfield 46, 3) := by decide +kernel
theorem dX5_told_111 : decode cX5_told 111 = .ok (.invokevirtual 118, 3) := by decide +kernel
theorem dX5_told_114 : decode cX5_told 114 = .ok (.ifCond .eq 7, 3) := by decide +kernel
theorem dX5_told_117 : decode cX5_told 117 = .ok (.iconst 1, 1) := by decide +kernel
theorem dX5_told_118 : decode cX5_told 118 = .ok (.goto 4, 3) := by decide +kernel
theorem dX5_told_121 : decode cX5_told 121 = .ok (.iconst 0, 1) := by decide +kernel
theorem dX5_told_122 : decode cX5_told 122 = .ok (.ireturn, 1) := by decide +kernel
theorem dX5_told_123 : decode cX5_told 123 = .ok (.aload_n 3, 1) := by decide +kernel
theorem dX5_told_124 : decode cX5_told 124 = .ok (.getfield 81, 3) := by decide +kernel
theorem dX5_told_127 : decode cX5_told 127 = .ok (.ireturn, 1) := by decide +kernel
theorem dX5_told_128 : decode cX5_told 128 = .ok (.aload_n 3, 1) := by decide +kernel
theorem dX5_told_129 : decode cX5_told 129 = .ok (.getfield 122, 3) := by decide +kernel
theorem dX5_told_132 : decode cX5_told 132 = .ok (.ireturn, 1) := by decide +kernel
theorem dX5_told_133 : decode cX5_told 133 = .ok (.aload_n 3, 1) := by decide +kernel
theorem dX5_told_134 : decode cX5_told 134 = .ok (.getfield 84, 3) := by decide +kernel
theorem dX5_told_137 : decode cX5_told 137 = .ok (.ireturn, 1) := by decide +kernel
theorem dX5_told_138 : decode cX5_told 138 = .ok (.aload_n 3, 1) := by decide +kernel
theorem dX5_told_139 : decode cX5_told 139 = .ok (.getfield 125, 3) := by decide +kernel
theorem dX5_told_142 : decode cX5_told 142 = .ok (.ireturn, 1) := by decide +kernel
theorem dX5_told_143 : decode cX5_told 143 = .ok (.ldc 72, 2) := by decide +kernel
theorem dX5_told_145 : decode cX5_told 145 = .ok (.ireturn, 1) := by decide +kernel
theorem dX5_lasts_0 : decode cX5_lasts 0 = .ok (.aload_n 0, 1) := by decide +kernel
theorem dX5_lasts_1 : decode cX5_lasts 1 = .ok (.iload_n 1, 1) := by decide +kernel
theorem dX5_lasts_2 : decode cX5_lasts 2 = .ok (.invokevirtual 77, 3) := by decide +kernel
theorem dX5_lasts_5 : decode cX5_lasts 5 = .ok (.astore_n 3, 1) := by decide +kernel
theorem dX5_lasts_6 : decode cX5_lasts 6 = .ok (.aload_n 3, 1) := by decide +kernel
theorem dX5_lasts_7 : decode cX5_lasts 7 = .ok (.ifnull 13, 3) := by decide +kernel
theorem dX5_lasts_10 : decode cX5_lasts 10 = .ok (.iload_n 2, 1) := by decide +kernel
theorem dX5_lasts_11 : decode cX5_lasts 11 = .ok (.iconst 0, 1) := by decide +kernel
theorem dX5_lasts_12 : decode cX5_lasts 12 = .ok (.bipush 40, 2) := by decide +kernel
theorem dX5_lasts_14 : decode cX5_lasts 14 = .ok (.invokestatic 68, 3) := by decide +kernel
theorem dX5_lasts_17 : decode cX5_lasts 17 = .ok (.ifCond .eq 6, 3) := by decide +kernel
theorem dX5_lasts_20 : decode cX5_lasts 20 = .ok (.ldc 72, 2) := by decide +kernel
theorem dX5_lasts_22 : decode cX5_lasts 22 = .ok (.ireturn, 1) := by decide +kernel
theorem dX5_lasts_23 : decode cX5_lasts 23 = .ok (.aload_n 3, 1) := by decide +kernel
theorem dX5_lasts_24 : decode cX5_lasts 24 = .ok (.iload_n 2, 1) := by decide +kernel
theorem dX5_lasts_25 : decode cX5_lasts 25 = .ok (.invokevirtual 128, 3) := by decide +kernel
theorem dX5_lasts_28 : decode cX5_lasts 28 = .ok (.ireturn, 1) := by decide +kernel
theorem dX5_stock_0 : decode cX5_stock 0 = .ok (.iload_n 1, 1) := by decide +kernel
theorem dX5_stock_1 : decode cX5_stock 1 = .ok (.iconst 0, 1) := by decide +kernel
theorem dX5_stock_2 : decode cX5_stock 2 = .ok (.ldc 132, 2) := by decide +kernel
theorem dX5_stock_4 : decode cX5_stock 4 = .ok (.aload_n 0, 1) := by decide +kernel
theorem dX5_stock_5 : decode cX5_stock 5 = .ok (.getfield 55, 3) := by decide +kernel
theorem dX5_stock_8 : decode cX5_stock 8 = .ok (.isub, 1) := by decide +kernel
theorem dX5_stock_9 : decode cX5_stock 9 = .ok (.invokestatic 68, 3) := by decide +kernel
theorem dX5_stock_12 : decode cX5_stock 12 = .ok (.ifCond .eq 6, 3) := by decide +kernel
theorem dX5_stock_15 : decode cX5_stock 15 = .ok (.ldc 72, 2) := by decide +kernel
theorem dX5_stock_17 : decode cX5_stock 17 = .ok (.ireturn, 1) := by decide +kernel
theorem dX5_stock_18 : decode cX5_stock 18 = .ok (.aload_n 0, 1) := by decide +kernel
theorem dX5_stock_19 : decode cX5_stock 19 = .ok (.dup, 1) := by decide +kernel
theorem dX5_stock_20 : decode cX5_stock 20 = .ok (.getfield 55, 3) := by decide +kernel
theorem dX5_stock_23 : decode cX5_stock 23 = .ok (.iload_n 1, 1) := by decide +kernel
theorem dX5_stock_24 : decode cX5_stock 24 = .ok (.iadd, 1) := by decide +kernel
theorem dX5_stock_25 : decode cX5_stock 25 = .ok (.putfield 55, 3) := by decide +kernel
theorem dX5_stock_28 : decode cX5_stock 28 = .ok (.aload_n 0, 1) := by decide +kernel
theorem dX5_stock_29 : decode cX5_stock 29 = .ok (.dup, 1) := by decide +kernel
theorem dX5_stock_30 : decode cX5_stock 30 = .ok (.getfield 58, 3) := by decide +kernel
theorem dX5_stock_33 : decode cX5_stock 33 = .ok (.iload_n 1, 1) := by decide +kernel
theorem dX5_stock_34 : decode cX5_stock 34 = .ok (.i2l, 1) := by decide +kernel
theorem dX5_stock_35 : decode cX5_stock 35 = .ok (.ladd, 1) := by decide +kernel
theorem dX5_stock_36 : decode cX5_stock 36 = .ok (.putfield 58, 3) := by decide +kernel
theorem dX5_stock_39 : decode cX5_stock 39 = .ok (.aload_n 0, 1) := by decide +kernel
theorem dX5_stock_40 : decode cX5_stock 40 = .ok (.getfield 55, 3) := by decide +kernel
theorem dX5_stock_43 : decode cX5_stock 43 = .ok (.ireturn, 1) := by decide +kernel
theorem dX5_lorry_0 : decode cX5_lorry 0 = .ok (.iload_n 1, 1) := by decide +kernel
theorem dX5_lorry_1 : decode cX5_lorry 1 = .ok (.bipush 100, 2) := by decide +kernel
theorem dX5_lorry_3 : decode cX5_lorry 3 = .ok (.sipush 9000, 3) := by decide +kernel
theorem dX5_lorry_6 : decode cX5_lorry 6 = .ok (.invokestatic 68, 3) := by decide +kernel
theorem dX5_lorry_9 : decode cX5_lorry 9 = .ok (.ifCond .eq 6, 3) := by decide +kernel
theorem dX5_lorry_12 : decode cX5_lorry 12 = .ok (.ldc 72, 2) := by decide +kernel
theorem dX5_lorry_14 : decode cX5_lorry 14 = .ok (.ireturn, 1) := by decide +kernel
theorem dX5_lorry_15 : decode cX5_lorry 15 = .ok (.aload_n 0, 1) := by decide +kernel
theorem dX5_lorry_16 : decode cX5_lorry 16 = .ok (.getfield 49, 3) := by decide +kernel
theorem dX5_lorry_19 : decode cX5_lorry 19 = .ok (.istore_n 2, 1) := by decide +kernel
theorem dX5_lorry_20 : decode cX5_lorry 20 = .ok (.aload_n 0, 1) := by decide +kernel
theorem dX5_lorry_21 : decode cX5_lorry 21 = .ok (.iload_n 1, 1) := by decide +kernel
theorem dX5_lorry_22 : decode cX5_lorry 22 = .ok (.putfield 49, 3) := by decide +kernel
theorem dX5_lorry_25 : decode cX5_lorry 25 = .ok (.iload_n 2, 1) := by decide +kernel
theorem dX5_lorry_26 : decode cX5_lorry 26 = .ok (.ireturn, 1) := by decide +kernel
theorem dX5_calls_0 : decode cX5_calls 0 = .ok (.iconst 0, 1) := by decide +kernel
theorem dX5_calls_1 : decode cX5_calls 1 = .ok (.istore_n 1, 1) := by decide +kernel
theorem dX5_calls_2 : decode cX5_calls 2 = .ok (.iconst 0, 1) := by decide +kernel
theorem dX5_calls_3 : decode cX5_calls 3 = .ok (.istore_n 2, 1) := by decide +kernel
theorem dX5_calls_4 : decode cX5_calls 4 = .ok (.iconst 0, 1) := by decide +kernel
theorem dX5_calls_5 : decode cX5_calls 5 = .ok (.istore_n 3, 1) := by decide +kernel
theorem dX5_calls_6 : decode cX5_calls 6 = .ok (.iconst 0, 1) := by decide +kernel
theorem dX5_calls_7 : decode cX5_calls 7 = .ok (.istore 4, 2) := by decide +kernel
theorem dX5_calls_9 : decode cX5_calls 9 = .ok (.iload 4, 2) := by decide +kernel
theorem dX5_calls_11 : decode cX5_calls 11 = .ok (.bipush 24, 2) := by decide +kernel
theorem dX5_calls_13 : decode cX5_calls 13 = .ok (.if_icmp .ge 80, 3) := by decide +kernel
theorem dX5_calls_16 : decode cX5_calls 16 = .ok (.iload_n 2, 1) := by decide +kernel
theorem dX5_calls_17 : decode cX5_calls 17 = .ok (.invokestatic 133, 3) := by decide +kernel
theorem dX5_calls_20 : decode cX5_calls 20 = .ok (.bipush 8, 2) := by decide +kernel
theorem dX5_calls_22 : decode cX5_calls 22 = .ok (.if_icmp .ge 71, 3) := by decide +kernel
theorem dX5_calls_25 : decode cX5_calls 25 = .ok (.aload_n 0, 1) := by decide +kernel
theorem dX5_calls_26 : decode cX5_calls 26 = .ok (.iload_n 1, 1) := by decide +kernel
theorem dX5_calls_27 : decode cX5_calls 27 = .ok (.invokevirtual 138, 3) := by decide +kernel
theorem dX5_calls_30 : decode cX5_calls 30 = .ok (.istore 5, 2) := by decide +kernel
theorem dX5_calls_32 : decode cX5_calls 32 = .ok (.aload_n 0, 1) := by decide +kernel
theorem dX5_calls_33 : decode cX5_calls 33 = .ok (.iload 5, 2) := by decide +kernel
theorem dX5_calls_35 : decode cX5_calls 35 = .ok (.invokevirtual 77, 3) := by decide +kernel
theorem dX5_calls_38 : decode cX5_calls 38 = .ok (.astore 6, 2) := by decide +kernel
theorem dX5_calls_40 : decode cX5_calls 40 = .ok (.aload 6, 2) := by decide +kernel
theorem dX5_calls_42 : decode cX5_calls 42 = .ok (.ifnonnull 6, 3) := by decide +kernel
theorem dX5_calls_45 : decode cX5_calls 45 = .ok (.goto 48, 3) := by decide +kernel
theorem dX5_calls_48 : decode cX5_calls 48 = .ok (.iload_n 1, 1) := by decide +kernel
theorem dX5_calls_49 : decode cX5_calls 49 = .ok (.iconst 1, 1) := by decide +kernel
theorem dX5_calls_50 : decode cX5_calls 50 = .ok (.iload 5, 2) := by decide +kernel
theorem dX5_calls_52 : decode cX5_calls 52 = .ok (.ishl, 1) := by decide +kernel
theorem dX5_calls_53 : decode cX5_calls 53 = .ok (.ior, 1) := by decide +kernel
theorem dX5_calls_54 : decode cX5_calls 54 = .ok (.istore_n 1, 1) := by decide +kernel
theorem dX5_calls_55 : decode cX5_calls 55 = .ok (.iload_n 3, 1) := by decide +kernel
theorem dX5_calls_56 : decode cX5_calls 56 = .ok (.aload 6, 2) := by decide +kernel
theorem dX5_calls_58 : decode cX5_calls 58 = .ok (.invokevirtual 141, 3) := by decide +kernel
theorem dX5_calls_61 : decode cX5_calls 61 = .ok (.iadd, 1) := by decide +kernel
theorem dX5_calls_62 : decode cX5_calls 62 = .ok (.aload_n 0, 1) := by decide +kernel
theorem dX5_calls_63 : decode cX5_calls 63 = .ok (.getfield 49, 3) := by decide +kernel
theorem dX5_calls_66 : decode cX5_calls 66 = .ok (.if_icmp .le 6, 3) := by decide +kernel
theorem dX5_calls_69 : decode cX5_calls 69 = .ok (.goto 18, 3) := by decide +kernel
theorem dX5_calls_72 : decode cX5_calls 72 = .ok (.iload_n 3, 1) := by decide +kernel
theorem dX5_calls_73 : decode cX5_calls 73 = .ok (.aload 6, 2) := by decide +kernel
theorem dX5_calls_75 : decode cX5_calls 75 = .ok (.invokevirtual 141, 3) := by decide +kernel
theorem dX5_calls_78 : decode cX5_calls 78 = .ok (.iadd, 1) := by decide +kernel
theorem dX5_calls_79 : decode cX5_calls 79 = .ok (.istore_n 3, 1) := by decide +kernel
theorem dX5_calls_80 : decode cX5_calls 80 = .ok (.iload_n 2, 1) := by decide +kernel
theorem dX5_calls_81 : decode cX5_calls 81 = .ok (.iconst 1, 1) := by decide +kernel
theorem dX5_calls_82 : decode cX5_calls 82 = .ok (.iload 5, 2) := by decide +kernel
theorem dX5_calls_84 : decode cX5_calls 84 = .ok (.ishl, 1) := by decide +kernel
theorem dX5_calls_85 : decode cX5_calls 85 = .ok (.ior, 1) := by decide +kernel
theorem dX5_calls_86 : decode cX5_calls 86 = .ok (.istore_n 2, 1) := by decide +kernel
theorem dX5_calls_87 : decode cX5_calls 87 = .ok (.iinc 4 1, 3) := by decide +kernel
theorem dX5_calls_90 : decode cX5_calls 90 = .ok (.goto (-81), 3) := by decide +kernel
theorem dX5_calls_93 : decode cX5_calls 93 = .ok (.iload_n 2, 1) := by decide +kernel
theorem dX5_calls_94 : decode cX5_calls 94 = .ok (.ireturn, 1) := by decide +kernel
theorem dX5_round_0 : decode cX5_round 0 = .ok (.aload_n 0, 1) := by decide +kernel
theorem dX5_round_1 : decode cX5_round 1 = .ok (.iload_n 1, 1) := by decide +kernel
theorem dX5_round_2 : decode cX5_round 2 = .ok (.invokevirtual 144, 3) := by decide +kernel
theorem dX5_round_5 : decode cX5_round 5 = .ok (.ifCond .eq 6, 3) := by decide +kernel
theorem dX5_round_8 : decode cX5_round 8 = .ok (.ldc 72, 2) := by decide +kernel
theorem dX5_round_10 : decode cX5_round 10 = .ok (.ireturn, 1) := by decide +kernel
theorem dX5_round_11 : decode cX5_round 11 = .ok (.aload_n 0, 1) := by decide +kernel
theorem dX5_round_12 : decode cX5_round 12 = .ok (.iload_n 1, 1) := by decide +kernel
theorem dX5_round_13 : decode cX5_round 13 = .ok (.invokevirtual 148, 3) := by decide +kernel
theorem dX5_round_16 : decode cX5_round 16 = .ok (.istore_n 3, 1) := by decide +kernel
theorem dX5_round_17 : decode cX5_round 17 = .ok (.iload_n 2, 1) := by decide +kernel
theorem dX5_round_18 : decode cX5_round 18 = .ok (.tableswitch 70 0 2 #[26, 46, 68], 26) := by decide +kernel
theorem dX5_round_44 : decode cX5_round 44 = .ok (.aload_n 0, 1) := by decide +kernel
theorem dX5_round_45 : decode cX5_round 45 = .ok (.getfield 18, 3) := by decide +kernel
theorem dX5_round_48 : decode cX5_round 48 = .ok (.iload_n 1, 1) := by decide +kernel
theorem dX5_round_49 : decode cX5_round 49 = .ok (.aload_n 0, 1) := by decide +kernel
theorem dX5_round_50 : decode cX5_round 50 = .ok (.getfield 11, 3) := by decide +kernel
theorem dX5_round_53 : decode cX5_round 53 = .ok (.invokevirtual 151, 3) := by decide +kernel
theorem dX5_round_56 : decode cX5_round 56 = .ok (.aload_n 0, 1) := by decide +kernel
theorem dX5_round_57 : decode cX5_round 57 = .ok (.getfield 18, 3) := by decide +kernel
theorem dX5_round_60 : decode cX5_round 60 = .ok (.invokevirtual 155, 3) := by decide +kernel
theorem dX5_round_63 : decode cX5_round 63 = .ok (.ireturn, 1) := by decide +kernel
theorem dX5_round_64 : decode cX5_round 64 = .ok (.iload_n 3, 1) := by decide +kernel
theorem dX5_round_65 : decode cX5_round 65 = .ok (.aload_n 0, 1) := by decide +kernel
theorem dX5_round_66 : decode cX5_round 66 = .ok (.getfield 49, 3) := by decide +kernel
theorem dX5_round_69 : decode cX5_round 69 = .ok (.if_icmp .gt 15, 3) := by decide +kernel
theorem dX5_round_72 : decode cX5_round 72 = .ok (.iload_n 3, 1) := by decide +kernel
theorem dX5_round_73 : decode cX5_round 73 = .ok (.aload_n 0, 1) := by decide +kernel
theorem dX5_round_74 : decode cX5_round 74 = .ok (.getfield 55, 3) := by decide +kernel
theorem dX5_round_77 : decode cX5_round 77 = .ok (.if_icmp .gt 7, 3) := by decide +kernel
theorem dX5_round_80 : decode cX5_round 80 = .ok (.iconst 1, 1) := by decide +kernel
theorem dX5_round_81 : decode cX5_round 81 = .ok (.goto 4, 3) := by decide +kernel
theorem dX5_round_84 : decode cX5_round 84 = .ok (.iconst 0, 1) := by decide +kernel
theorem dX5_round_85 : decode cX5_round 85 = .ok (.ireturn, 1) := by decide +kernel
theorem dX5_round_86 : decode cX5_round 86 = .ok (.iload_n 3, 1) := by decide +kernel
theorem dX5_round_87 : decode cX5_round 87 = .ok (.ireturn, 1) := by decide +kernel
theorem dX5_round_88 : decode cX5_round 88 = .ok (.ldc 72, 2) := by decide +kernel
theorem dX5_round_90 : decode cX5_round 90 = .ok (.ireturn, 1) := by decide +kernel
theorem dX5_stop_0 : decode cX5_stop 0 = .ok (.aload_n 0, 1) := by decide +kernel
theorem dX5_stop_1 : decode cX5_stop 1 = .ok (.iload_n 1, 1) := by decide +kernel
theorem dX5_stop_2 : decode cX5_stop 2 = .ok (.invokevirtual 144, 3) := by decide +kernel
theorem dX5_stop_5 : decode cX5_stop 5 = .ok (.ifCond .eq 6, 3) := by decide +kernel
theorem dX5_stop_8 : decode cX5_stop 8 = .ok (.ldc 72, 2) := by decide +kernel
theorem dX5_stop_10 : decode cX5_stop 10 = .ok (.ireturn, 1) := by decide +kernel
theorem dX5_stop_11 : decode cX5_stop 11 = .ok (.aload_n 0, 1) := by decide +kernel
theorem dX5_stop_12 : decode cX5_stop 12 = .ok (.getfield 18, 3) := by decide +kernel
theorem dX5_stop_15 : decode cX5_stop 15 = .ok (.iload_n 1, 1) := by decide +kernel
theorem dX5_stop_16 : decode cX5_stop 16 = .ok (.aload_n 0, 1) := by decide +kernel
theorem dX5_stop_17 : decode cX5_stop 17 = .ok (.getfield 11, 3) := by decide +kernel
theorem dX5_stop_20 : decode cX5_stop 20 = .ok (.invokevirtual 151, 3) := by decide +kernel
theorem dX5_stop_23 : decode cX5_stop 23 = .ok (.aload_n 0, 1) := by decide +kernel
theorem dX5_stop_24 : decode cX5_stop 24 = .ok (.getfield 18, 3) := by decide +kernel
theorem dX5_stop_27 : decode cX5_stop 27 = .ok (.iload_n 2, 1) := by decide +kernel
theorem dX5_stop_28 : decode cX5_stop 28 = .ok (.invokevirtual 158, 3) := by decide +kernel
theorem dX5_stop_31 : decode cX5_stop 31 = .ok (.ireturn, 1) := by decide +kernel
theorem dX5_fill_0 : decode cX5_fill 0 = .ok (.aload_n 0, 1) := by decide +kernel
theorem dX5_fill_1 : decode cX5_fill 1 = .ok (.iload_n 1, 1) := by decide +kernel
theorem dX5_fill_2 : decode cX5_fill 2 = .ok (.invokevirtual 77, 3) := by decide +kernel
theorem dX5_fill_5 : decode cX5_fill 5 = .ok (.astore_n 3, 1) := by decide +kernel
theorem dX5_fill_6 : decode cX5_fill 6 = .ok (.aload_n 3, 1) := by decide +kernel
theorem dX5_fill_7 : decode cX5_fill 7 = .ok (.ifnull 15, 3) := by decide +kernel
theorem dX5_fill_10 : decode cX5_fill 10 = .ok (.iload_n 2, 1) := by decide +kernel
theorem dX5_fill_11 : decode cX5_fill 11 = .ok (.iconst 0, 1) := by decide +kernel
theorem dX5_fill_12 : decode cX5_fill 12 = .ok (.aload_n 3, 1) := by decide +kernel
theorem dX5_fill_13 : decode cX5_fill 13 = .ok (.getfield 161, 3) := by decide +kernel
theorem dX5_fill_16 : decode cX5_fill 16 = .ok (.invokestatic 68, 3) := by decide +kernel
theorem dX5_fill_19 : decode cX5_fill 19 = .ok (.ifCond .eq 6, 3) := by decide +kernel
theorem dX5_fill_22 : decode cX5_fill 22 = .ok (.ldc 72, 2) := by decide +kernel
theorem dX5_fill_24 : decode cX5_fill 24 = .ok (.ireturn, 1) := by decide +kernel
theorem dX5_fill_25 : decode cX5_fill 25 = .ok (.aload_n 0, 1) := by decide +kernel
theorem dX5_fill_26 : decode cX5_fill 26 = .ok (.getfield 55, 3) := by decide +kernel
theorem dX5_fill_29 : decode cX5_fill 29 = .ok (.iload_n 2, 1) := by decide +kernel
theorem dX5_fill_30 : decode cX5_fill 30 = .ok (.if_icmp .ge 6, 3) := by decide +kernel
theorem dX5_fill_33 : decode cX5_fill 33 = .ok (.ldc 87, 2) := by decide +kernel
theorem dX5_fill_35 : decode cX5_fill 35 = .ok (.ireturn, 1) := by decide +kernel
theorem dX5_fill_36 : decode cX5_fill 36 = .ok (.aload_n 3, 1) := by decide +kernel
theorem dX5_fill_37 : decode cX5_fill 37 = .ok (.getfield 164, 3) := by decide +kernel
theorem dX5_fill_40 : decode cX5_fill 40 = .ok (.iload_n 2, 1) := by decide +kernel
theorem dX5_fill_41 : decode cX5_fill 41 = .ok (.aload_n 0, 1) := by decide +kernel
theorem dX5_fill_42 : decode cX5_fill 42 = .ok (.getfield 52, 3) := by decide +kernel
theorem dX5_fill_45 : decode cX5_fill 45 = .ok (.invokevirtual 168, 3) := by decide +kernel
theorem dX5_fill_48 : decode cX5_fill 48 = .ok (.istore 4, 2) := by decide +kernel
theorem dX5_fill_50 : decode cX5_fill 50 = .ok (.aload_n 3, 1) := by decide +kernel
theorem dX5_fill_51 : decode cX5_fill 51 = .ok (.getfield 164, 3) := by decide +kernel
theorem dX5_fill_54 : decode cX5_fill 54 = .ok (.iload_n 2, 1) := by decide +kernel
theorem dX5_fill_55 : decode cX5_fill 55 = .ok (.invokevirtual 174, 3) := by decide +kernel
theorem dX5_fill_58 : decode cX5_fill 58 = .ok (.aload_n 3, 1) := by decide +kernel
theorem dX5_fill_59 : decode cX5_fill 59 = .ok (.iload_n 2, 1) := by decide +kernel
theorem dX5_fill_60 : decode cX5_fill 60 = .ok (.invokevirtual 177, 3) := by decide +kernel
theorem dX5_fill_63 : decode cX5_fill 63 = .ok (.aload_n 0, 1) := by decide +kernel
theorem dX5_fill_64 : decode cX5_fill 64 = .ok (.dup, 1) := by decide +kernel
theorem dX5_fill_65 : decode cX5_fill 65 = .ok (.getfield 55, 3) := by decide +kernel
theorem dX5_fill_68 : decode cX5_fill 68 = .ok (.iload_n 2, 1) := by decide +kernel
theorem dX5_fill_69 : decode cX5_fill 69 = .ok (.isub, 1) := by decide +kernel
theorem dX5_fill_70 : decode cX5_fill 70 = .ok (.putfield 55, 3) := by decide +kernel
theorem dX5_fill_73 : decode cX5_fill 73 = .ok (.aload_n 0, 1) := by decide +kernel
theorem dX5_fill_74 : decode cX5_fill 74 = .ok (.dup, 1) := by decide +kernel
theorem dX5_fill_75 : decode cX5_fill 75 = .ok (.getfield 62, 3) := by decide +kernel
theorem dX5_fill_78 : decode cX5_fill 78 = .ok (.iload_n 2, 1) := by decide +kernel
theorem dX5_fill_79 : decode cX5_fill 79 = .ok (.i2l, 1) := by decide +kernel
theorem dX5_fill_80 : decode cX5_fill 80 = .ok (.ladd, 1) := by decide +kernel
theorem dX5_fill_81 : decode cX5_fill 81 = .ok (.putfield 62, 3) := by decide +kernel
theorem dX5_fill_84 : decode cX5_fill 84 = .ok (.aload_n 0, 1) := by decide +kernel
theorem dX5_fill_85 : decode cX5_fill 85 = .ok (.dup, 1) := by decide +kernel
theorem dX5_fill_86 : decode cX5_fill 86 = .ok (.getfield 65, 3) := by decide +kernel
theorem dX5_fill_89 : decode cX5_fill 89 = .ok (.iload 4, 2) := by decide +kernel
theorem dX5_fill_91 : decode cX5_fill 91 = .ok (.i2l, 1) := by decide +kernel
theorem dX5_fill_92 : decode cX5_fill 92 = .ok (.ladd, 1) := by decide +kernel
theorem dX5_fill_93 : decode cX5_fill 93 = .ok (.putfield 65, 3) := by decide +kernel
theorem dX5_fill_96 : decode cX5_fill 96 = .ok (.iload 4, 2) := by decide +kernel
theorem dX5_fill_98 : decode cX5_fill 98 = .ok (.ireturn, 1) := by decide +kernel
theorem dX5_price_0 : decode cX5_price 0 = .ok (.iload_n 1, 1) := by decide +kernel
theorem dX5_price_1 : decode cX5_price 1 = .ok (.iconst 0, 1) := by decide +kernel
theorem dX5_price_2 : decode cX5_price 2 = .ok (.sipush 1000, 3) := by decide +kernel
theorem dX5_price_5 : decode cX5_price 5 = .ok (.invokestatic 68, 3) := by decide +kernel
theorem dX5_price_8 : decode cX5_price 8 = .ok (.ifCond .eq 6, 3) := by decide +kernel
theorem dX5_price_11 : decode cX5_price 11 = .ok (.ldc 72, 2) := by decide +kernel
theorem dX5_price_13 : decode cX5_price 13 = .ok (.ireturn, 1) := by decide +kernel
theorem dX5_price_14 : decode cX5_price 14 = .ok (.aload_n 0, 1) := by decide +kernel
theorem dX5_price_15 : decode cX5_price 15 = .ok (.getfield 52, 3) := by decide +kernel
theorem dX5_price_18 : decode cX5_price 18 = .ok (.istore_n 2, 1) := by decide +kernel
theorem dX5_price_19 : decode cX5_price 19 = .ok (.aload_n 0, 1) := by decide +kernel
theorem dX5_price_20 : decode cX5_price 20 = .ok (.iload_n 1, 1) := by decide +kernel
theorem dX5_price_21 : decode cX5_price 21 = .ok (.putfield 52, 3) := by decide +kernel
theorem dX5_price_24 : decode cX5_price 24 = .ok (.iload_n 2, 1) := by decide +kernel
theorem dX5_price_25 : decode cX5_price 25 = .ok (.ireturn, 1) := by decide +kernel
theorem dX5_feed_0 : decode cX5_feed 0 = .ok (.iload_n 3, 1) := by decide +kernel
theorem dX5_feed_1 : decode cX5_feed 1 = .ok (.iconst 1, 1) := by decide +kernel
theorem dX5_feed_2 : decode cX5_feed 2 = .ok (.bipush 8, 2) := by decide +kernel
theorem dX5_feed_4 : decode cX5_feed 4 = .ok (.invokestatic 68, 3) := by decide +kernel
theorem dX5_feed_7 : decode cX5_feed 7 = .ok (.ifCond .eq 6, 3) := by decide +kernel
theorem dX5_feed_10 : decode cX5_feed 10 = .ok (.ldc 72, 2) := by decide +kernel
theorem dX5_feed_12 : decode cX5_feed 12 = .ok (.ireturn, 1) := by decide +kernel
theorem dX5_feed_13 : decode cX5_feed 13 = .ok (.aload_n 0, 1) := by decide +kernel
theorem dX5_feed_14 : decode cX5_feed 14 = .ok (.getfield 25, 3) := by decide +kernel
theorem dX5_feed_17 : decode cX5_feed 17 = .ok (.lload_n 1, 1) := by decide +kernel
theorem dX5_feed_18 : decode cX5_feed 18 = .ok (.iload_n 3, 1) := by decide +kernel
theorem dX5_feed_19 : decode cX5_feed 19 = .ok (.invokevirtual 180, 3) := by decide +kernel
theorem dX5_feed_22 : decode cX5_feed 22 = .ok (.ireturn, 1) := by decide +kernel
theorem dX5_plans_0 : decode cX5_plans 0 = .ok (.aload_n 0, 1) := by decide +kernel
theorem dX5_plans_1 : decode cX5_plans 1 = .ok (.getfield 25, 3) := by decide +kernel
theorem dX5_plans_4 : decode cX5_plans 4 = .ok (.aload_n 0, 1) := by decide +kernel
theorem dX5_plans_5 : decode cX5_plans 5 = .ok (.getfield 11, 3) := by decide +kernel
theorem dX5_plans_8 : decode cX5_plans 8 = .ok (.invokevirtual 184, 3) := by decide +kernel
theorem dX5_plans_11 : decode cX5_plans 11 = .ok (.ireturn, 1) := by decide +kernel
theorem dX5_fault_0 : decode cX5_fault 0 = .ok (.aload_n 0, 1) := by decide +kernel
theorem dX5_fault_1 : decode cX5_fault 1 = .ok (.getfield 25, 3) := by decide +kernel
theorem dX5_fault_4 : decode cX5_fault 4 = .ok (.getfield 188, 3) := by decide +kernel
theorem dX5_fault_7 : decode cX5_fault 7 = .ok (.ireturn, 1) := by decide +kernel
theorem dX5_quote_0 : decode cX5_quote 0 = .ok (.aload_n 0, 1) := by decide +kernel
theorem dX5_quote_1 : decode cX5_quote 1 = .ok (.iload_n 1, 1) := by decide +kernel
theorem dX5_quote_2 : decode cX5_quote 2 = .ok (.invokevirtual 77, 3) := by decide +kernel
theorem dX5_quote_5 : decode cX5_quote 5 = .ok (.astore_n 3, 1) := by decide +kernel
theorem dX5_quote_6 : decode cX5_quote 6 = .ok (.aload_n 3, 1) := by decide +kernel
theorem dX5_quote_7 : decode cX5_quote 7 = .ok (.ifnull 14, 3) := by decide +kernel
theorem dX5_quote_10 : decode cX5_quote 10 = .ok (.iload_n 2, 1) := by decide +kernel
theorem dX5_quote_11 : decode cX5_quote 11 = .ok (.iconst 0, 1) := by decide +kernel
theorem dX5_quote_12 : decode cX5_quote 12 = .ok (.sipush 5000, 3) := by decide +kernel
theorem dX5_quote_15 : decode cX5_quote 15 = .ok (.invokestatic 68, 3) := by decide +kernel
theorem dX5_quote_18 : decode cX5_quote 18 = .ok (.ifCond .eq 6, 3) := by decide +kernel
theorem dX5_quote_21 : decode cX5_quote 21 = .ok (.ldc 72, 2) := by decide +kernel
theorem dX5_quote_23 : decode cX5_quote 23 = .ok (.ireturn, 1) := by decide +kernel
theorem dX5_quote_24 : decode cX5_quote 24 = .ok (.aload_n 3, 1) := by decide +kernel
theorem dX5_quote_25 : decode cX5_quote 25 = .ok (.getfield 164, 3) := by decide +kernel
theorem dX5_quote_28 : decode cX5_quote 28 = .ok (.iload_n 2, 1) := by decide +kernel
theorem dX5_quote_29 : decode cX5_quote 29 = .ok (.aload_n 0, 1) := by decide +kernel
theorem dX5_quote_30 : decode cX5_quote 30 = .ok (.getfield 52, 3) := by decide +kernel
theorem dX5_quote_33 : decode cX5_quote 33 = .ok (.invokevirtual 168, 3) := by decide +kernel
theorem dX5_quote_36 : decode cX5_quote 36 = .ok (.ireturn, 1) := by decide +kernel
theorem dX5_kind_0 : decode cX5_kind 0 = .ok (.aload_n 0, 1) := by decide +kernel
theorem dX5_kind_1 : decode cX5_kind 1 = .ok (.iload_n 1, 1) := by decide +kernel
theorem dX5_kind_2 : decode cX5_kind 2 = .ok (.invokevirtual 77, 3) := by decide +kernel
theorem dX5_kind_5 : decode cX5_kind 5 = .ok (.astore_n 2, 1) := by decide +kernel
theorem dX5_kind_6 : decode cX5_kind 6 = .ok (.aload_n 2, 1) := by decide +kernel
theorem dX5_kind_7 : decode cX5_kind 7 = .ok (.ifnonnull 8, 3) := by decide +kernel
theorem dX5_kind_10 : decode cX5_kind 10 = .ok (.ldc 72, 2) := by decide +kernel
theorem dX5_kind_12 : decode cX5_kind 12 = .ok (.goto 7, 3) := by decide +kernel
theorem dX5_kind_15 : decode cX5_kind 15 = .ok (.aload_n 2, 1) := by decide +kernel
theorem dX5_kind_16 : decode cX5_kind 16 = .ok (.invokevirtual 191, 3) := by decide +kernel
theorem dX5_kind_19 : decode cX5_kind 19 = .ok (.ireturn, 1) := by decide +kernel
theorem dX5_as_0 : decode cX5_as 0 = .ok (.aload_n 0, 1) := by decide +kernel
theorem dX5_as_1 : decode cX5_as 1 = .ok (.iload_n 1, 1) := by decide +kernel
theorem dX5_as_2 : decode cX5_as 2 = .ok (.invokevirtual 77, 3) := by decide +kernel
theorem dX5_as_5 : decode cX5_as 5 = .ok (.astore_n 3, 1) := by decide +kernel
theorem dX5_as_6 : decode cX5_as 6 = .ok (.aload_n 3, 1) := by decide +kernel
theorem dX5_as_7 : decode cX5_as 7 = .ok (.ifnull 12, 3) := by decide +kernel
theorem dX5_as_10 : decode cX5_as 10 = .ok (.iload_n 2, 1) := by decide +kernel
theorem dX5_as_11 : decode cX5_as 11 = .ok (.iconst 0, 1) := by decide +kernel
theorem dX5_as_12 : decode cX5_as 12 = .ok (.iconst 3, 1) := by decide +kernel
theorem dX5_as_13 : decode cX5_as 13 = .ok (.invokestatic 68, 3) := by decide +kernel
theorem dX5_as_16 : decode cX5_as 16 = .ok (.ifCond .eq 6, 3) := by decide +kernel
theorem dX5_as_19 : decode cX5_as 19 = .ok (.ldc 72, 2) := by decide +kernel
theorem dX5_as_21 : decode cX5_as 21 = .ok (.ireturn, 1) := by decide +kernel
theorem dX5_as_22 : decode cX5_as 22 = .ok (.aload_n 3, 1) := by decide +kernel
theorem dX5_as_23 : decode cX5_as 23 = .ok (.iload_n 2, 1) := by decide +kernel
theorem dX5_as_24 : decode cX5_as 24 = .ok (.invokevirtual 194, 3) := by decide +kernel
theorem dX5_as_27 : decode cX5_as 27 = .ok (.ifCond .eq 10, 3) := by decide +kernel
theorem dX5_as_30 : decode cX5_as 30 = .ok (.aload_n 3, 1) := by decide +kernel
theorem dX5_as_31 : decode cX5_as 31 = .ok (.getfield 161, 3) := by decide +kernel
theorem dX5_as_34 : decode cX5_as 34 = .ok (.goto 5, 3) := by decide +kernel
theorem dX5_as_37 : decode cX5_as 37 = .ok (.ldc 197, 2) := by decide +kernel
theorem dX5_as_39 : decode cX5_as 39 = .ok (.ireturn, 1) := by decide +kernel
theorem dX5_ask_0 : decode cX5_ask 0 = .ok (.aload_n 0, 1) := by decide +kernel
theorem dX5_ask_1 : decode cX5_ask 1 = .ok (.iload_n 1, 1) := by decide +kernel
theorem dX5_ask_2 : decode cX5_ask 2 = .ok (.invokevirtual 77, 3) := by decide +kernel
theorem dX5_ask_5 : decode cX5_ask 5 = .ok (.astore_n 3, 1) := by decide +kernel
theorem dX5_ask_6 : decode cX5_ask 6 = .ok (.aload_n 3, 1) := by decide +kernel
theorem dX5_ask_7 : decode cX5_ask 7 = .ok (.ifnull 12, 3) := by decide +kernel
theorem dX5_ask_10 : decode cX5_ask 10 = .ok (.iload_n 2, 1) := by decide +kernel
theorem dX5_ask_11 : decode cX5_ask 11 = .ok (.iconst 0, 1) := by decide +kernel
theorem dX5_ask_12 : decode cX5_ask 12 = .ok (.iconst 1, 1) := by decide +kernel
theorem dX5_ask_13 : decode cX5_ask 13 = .ok (.invokestatic 68, 3) := by decide +kernel
theorem dX5_ask_16 : decode cX5_ask 16 = .ok (.ifCond .eq 6, 3) := by decide +kernel
theorem dX5_ask_19 : decode cX5_ask 19 = .ok (.ldc 72, 2) := by decide +kernel
theorem dX5_ask_21 : decode cX5_ask 21 = .ok (.ireturn, 1) := by decide +kernel
theorem dX5_ask_22 : decode cX5_ask 22 = .ok (.aload_n 0, 1) := by decide +kernel
theorem dX5_ask_23 : decode cX5_ask 23 = .ok (.getfield 32, 3) := by decide +kernel
theorem dX5_ask_26 : decode cX5_ask 26 = .ok (.invokevirtual 198, 3) := by decide +kernel
theorem dX5_ask_29 : decode cX5_ask 29 = .ok (.iload_n 2, 1) := by decide +kernel
theorem dX5_ask_30 : decode cX5_ask 30 = .ok (.ifCond .ne 14, 3) := by decide +kernel
theorem dX5_ask_33 : decode cX5_ask 33 = .ok (.aload_n 0, 1) := by decide +kernel
theorem dX5_ask_34 : decode cX5_ask 34 = .ok (.getfield 32, 3) := by decide +kernel
theorem dX5_ask_37 : decode cX5_ask 37 = .ok (.aload_n 3, 1) := by decide +kernel
theorem dX5_ask_38 : decode cX5_ask 38 = .ok (.invokevirtual 201, 3) := by decide +kernel
theorem dX5_ask_41 : decode cX5_ask 41 = .ok (.goto 11, 3) := by decide +kernel
theorem dX5_ask_44 : decode cX5_ask 44 = .ok (.aload_n 0, 1) := by decide +kernel
theorem dX5_ask_45 : decode cX5_ask 45 = .ok (.getfield 32, 3) := by decide +kernel
theorem dX5_ask_48 : decode cX5_ask 48 = .ok (.aload_n 3, 1) := by decide +kernel
theorem dX5_ask_49 : decode cX5_ask 49 = .ok (.invokevirtual 205, 3) := by decide +kernel
theorem dX5_ask_52 : decode cX5_ask 52 = .ok (.ireturn, 1) := by decide +kernel
theorem dX5_trace_0 : decode cX5_trace 0 = .ok (.aload_n 0, 1) := by decide +kernel
theorem dX5_trace_1 : decode cX5_trace 1 = .ok (.getfield 32, 3) := by decide +kernel
theorem dX5_trace_4 : decode cX5_trace 4 = .ok (.iload_n 1, 1) := by decide +kernel
theorem dX5_trace_5 : decode cX5_trace 5 = .ok (.invokevirtual 208, 3) := by decide +kernel
theorem dX5_trace_8 : decode cX5_trace 8 = .ok (.ireturn, 1) := by decide +kernel
theorem dX5_count_0 : decode cX5_count 0 = .ok (.iload_n 1, 1) := by decide +kernel
theorem dX5_count_1 : decode cX5_count 1 = .ok (.tableswitch 95 0 7 #[47, 53, 59, 65, 71, 76, 81, 86], 47) := by decide +kernel
theorem dX5_count_48 : decode cX5_count 48 = .ok (.aload_n 0, 1) := by decide +kernel
theorem dX5_count_49 : decode cX5_count 49 = .ok (.getfield 36, 3) := by decide +kernel
theorem dX5_count_52 : decode cX5_count 52 = .ok (.i2l, 1) := by decide +kernel
theorem dX5_count_53 : decode cX5_count 53 = .ok (.lreturn, 1) := by decide +kernel
theorem dX5_count_54 : decode cX5_count 54 = .ok (.aload_n 0, 1) := by decide +kernel
theorem dX5_count_55 : decode cX5_count 55 = .ok (.getfield 40, 3) := by decide +kernel
theorem dX5_count_58 : decode cX5_count 58 = .ok (.i2l, 1) := by decide +kernel
theorem dX5_count_59 : decode cX5_count 59 = .ok (.lreturn, 1) := by decide +kernel
theorem dX5_count_60 : decode cX5_count 60 = .ok (.aload_n 0, 1) := by decide +kernel
theorem dX5_count_61 : decode cX5_count 61 = .ok (.invokevirtual 108, 3) := by decide +kernel
theorem dX5_count_64 : decode cX5_count 64 = .ok (.i2l, 1) := by decide +kernel
theorem dX5_count_65 : decode cX5_count 65 = .ok (.lreturn, 1) := by decide +kernel
theorem dX5_count_66 : decode cX5_count 66 = .ok (.aload_n 0, 1) := by decide +kernel
theorem dX5_count_67 : decode cX5_count 67 = .ok (.getfield 55, 3) := by decide +kernel
theorem dX5_count_70 : decode cX5_count 70 = .ok (.i2l, 1) := by decide +kernel
theorem dX5_count_71 : decode cX5_count 71 = .ok (.lreturn, 1) := by decide +kernel
theorem dX5_count_72 : decode cX5_count 72 = .ok (.aload_n 0, 1) := by decide +kernel
theorem dX5_count_73 : decode cX5_count 73 = .ok (.getfield 58, 3) := by decide +kernel
theorem dX5_count_76 : decode cX5_count 76 = .ok (.lreturn, 1) := by decide +kernel
theorem dX5_count_77 : decode cX5_count 77 = .ok (.aload_n 0, 1) := by decide +kernel
theorem dX5_count_78 : decode cX5_count 78 = .ok (.getfield 62, 3) := by decide +kernel
theorem dX5_count_81 : decode cX5_count 81 = .ok (.lreturn, 1) := by decide +kernel
theorem dX5_count_82 : decode cX5_count 82 = .ok (.aload_n 0, 1) := by decide +kernel
theorem dX5_count_83 : decode cX5_count 83 = .ok (.getfield 65, 3) := by decide +kernel
theorem dX5_count_86 : decode cX5_count 86 = .ok (.lreturn, 1) := by decide +kernel
theorem dX5_count_87 : decode cX5_count 87 = .ok (.aload_n 0, 1) := by decide +kernel
theorem dX5_count_88 : decode cX5_count 88 = .ok (.getfield 25, 3) := by decide +kernel
theorem dX5_count_91 : decode cX5_count 91 = .ok (.getfield 211, 3) := by decide +kernel
theorem dX5_count_94 : decode cX5_count 94 = .ok (.i2l, 1) := by decide +kernel
theorem dX5_count_95 : decode cX5_count 95 = .ok (.lreturn, 1) := by decide +kernel
theorem dX5_count_96 : decode cX5_count 96 = .ok (.ldc2_w 214, 3) := by decide +kernel
theorem dX5_count_99 : decode cX5_count 99 = .ok (.lreturn, 1) := by decide +kernel
theorem dX5_isOutside_0 : decode cX5_isOutside 0 = .ok (.iload_n 0, 1) := by decide +kernel
theorem dX5_isOutside_1 : decode cX5_isOutside 1 = .ok (.iload_n 1, 1) := by decide +kernel
theorem dX5_isOutside_2 : decode cX5_isOutside 2 = .ok (.if_icmp .lt 8, 3) := by decide +kernel
theorem dX5_isOutside_5 : decode cX5_isOutside 5 = .ok (.iload_n 0, 1) := by decide +kernel
theorem dX5_isOutside_6 : decode cX5_isOutside 6 = .ok (.iload_n 2, 1) := by decide +kernel
theorem dX5_isOutside_7 : decode cX5_isOutside 7 = .ok (.if_icmp .le 7, 3) := by decide +kernel
theorem dX5_isOutside_10 : decode cX5_isOutside 10 = .ok (.iconst 1, 1) := by decide +kernel
theorem dX5_isOutside_11 : decode cX5_isOutside 11 = .ok (.goto 4, 3) := by decide +kernel
theorem dX5_isOutside_14 : decode cX5_isOutside 14 = .ok (.iconst 0, 1) := by decide +kernel
theorem dX5_isOutside_15 : decode cX5_isOutside 15 = .ok (.ireturn, 1) := by decide +kernel
theorem dX5_houseIn_0 : decode cX5_houseIn 0 = .ok (.aload_n 0, 1) := by decide +kernel
theorem dX5_houseIn_1 : decode cX5_houseIn 1 = .ok (.ifnull 13, 3) := by decide +kernel
theorem dX5_houseIn_4 : decode cX5_houseIn 4 = .ok (.iload_n 1, 1) := by decide +kernel
theorem dX5_houseIn_5 : decode cX5_houseIn 5 = .ok (.ifCond .lt 9, 3) := by decide +kernel
theorem dX5_houseIn_8 : decode cX5_houseIn 8 = .ok (.iload_n 1, 1) := by decide +kernel
theorem dX5_houseIn_9 : decode cX5_houseIn 9 = .ok (.aload_n 0, 1) := by decide +kernel
theorem dX5_houseIn_10 : decode cX5_houseIn 10 = .ok (.arraylength, 1) := by decide +kernel
theorem dX5_houseIn_11 : decode cX5_houseIn 11 = .ok (.if_icmp .lt 7, 3) := by decide +kernel
theorem dX5_houseIn_14 : decode cX5_houseIn 14 = .ok (.aconst_null, 1) := by decide +kernel
theorem dX5_houseIn_15 : decode cX5_houseIn 15 = .ok (.goto 6, 3) := by decide +kernel
theorem dX5_houseIn_18 : decode cX5_houseIn 18 = .ok (.aload_n 0, 1) := by decide +kernel
theorem dX5_houseIn_19 : decode cX5_houseIn 19 = .ok (.iload_n 1, 1) := by decide +kernel
theorem dX5_houseIn_20 : decode cX5_houseIn 20 = .ok (.aaload, 1) := by decide +kernel
theorem dX5_houseIn_21 : decode cX5_houseIn 21 = .ok (.areturn, 1) := by decide +kernel
theorem dX5_houseAt_0 : decode cX5_houseAt 0 = .ok (.aload_n 0, 1) := by decide +kernel
theorem dX5_houseAt_1 : decode cX5_houseAt 1 = .ok (.getfield 11, 3) := by decide +kernel
theorem dX5_houseAt_4 : decode cX5_houseAt 4 = .ok (.iload_n 1, 1) := by decide +kernel
theorem dX5_houseAt_5 : decode cX5_houseAt 5 = .ok (.invokestatic 216, 3) := by decide +kernel
theorem dX5_houseAt_8 : decode cX5_houseAt 8 = .ok (.areturn, 1) := by decide +kernel
theorem dX5_countDue_0 : decode cX5_countDue 0 = .ok (.iconst 0, 1) := by decide +kernel
theorem dX5_countDue_1 : decode cX5_countDue 1 = .ok (.istore_n 1, 1) := by decide +kernel
theorem dX5_countDue_2 : decode cX5_countDue 2 = .ok (.aload_n 0, 1) := by decide +kernel
theorem dX5_countDue_3 : decode cX5_countDue 3 = .ok (.getfield 11, 3) := by decide +kernel
theorem dX5_countDue_6 : decode cX5_countDue 6 = .ok (.astore_n 2, 1) := by decide +kernel
theorem dX5_countDue_7 : decode cX5_countDue 7 = .ok (.aload_n 2, 1) := by decide +kernel
theorem dX5_countDue_8 : decode cX5_countDue 8 = .ok (.arraylength, 1) := by decide +kernel
theorem dX5_countDue_9 : decode cX5_countDue 9 = .ok (.istore_n 3, 1) := by decide +kernel
theorem dX5_countDue_10 : decode cX5_countDue 10 = .ok (.iconst 0, 1) := by decide +kernel
theorem dX5_countDue_11 : decode cX5_countDue 11 = .ok (.istore 4, 2) := by decide +kernel
theorem dX5_countDue_13 : decode cX5_countDue 13 = .ok (.iload 4, 2) := by decide +kernel
theorem dX5_countDue_15 : decode cX5_countDue 15 = .ok (.iload_n 3, 1) := by decide +kernel
theorem dX5_countDue_16 : decode cX5_countDue 16 = .ok (.if_icmp .ge 39, 3) := by decide +kernel
theorem dX5_countDue_19 : decode cX5_countDue 19 = .ok (.aload_n 2, 1) := by decide +kernel
theorem dX5_countDue_20 : decode cX5_countDue 20 = .ok (.iload 4, 2) := by decide +kernel
theorem dX5_countDue_22 : decode cX5_countDue 22 = .ok (.aaload, 1) := by decide +kernel
theorem dX5_countDue_23 : decode cX5_countDue 23 = .ok (.astore 5, 2) := by decide +kernel
theorem dX5_countDue_25 : decode cX5_countDue 25 = .ok (.aload 5, 2) := by decide +kernel
theorem dX5_countDue_27 : decode cX5_countDue 27 = .ok (.ifnull 22, 3) := by decide +kernel
theorem dX5_countDue_30 : decode cX5_countDue 30 = .ok (.aload 5, 2) := by decide +kernel
theorem dX5_countDue_32 : decode cX5_countDue 32 = .ok (.aload_n 0, 1) := by decide +kernel
theorem dX5_countDue_33 : decode cX5_countDue 33 = .ok (.getfield 43, 3) := by decide +kernel
theorem dX5_countDue_36 : decode cX5_countDue 36 = .ok (.aload_n 0, 1) := by decide +kernel
theorem dX5_countDue_37 : decode cX5_countDue 37 = .ok (.getfield 46, 3) := by decide +kernel
theorem dX5_countDue_40 : decode cX5_countDue 40 = .ok (.invokevirtual 118, 3) := by decide +kernel
theorem dX5_countDue_43 : decode cX5_countDue 43 = .ok (.ifCond .eq 6, 3) := by decide +kernel
theorem dX5_countDue_46 : decode cX5_countDue 46 = .ok (.iinc 1 1, 3) := by decide +kernel
theorem dX5_countDue_49 : decode cX5_countDue 49 = .ok (.iinc 4 1, 3) := by decide +kernel
theorem dX5_countDue_52 : decode cX5_countDue 52 = .ok (.goto (-39), 3) := by decide +kernel
theorem dX5_countDue_55 : decode cX5_countDue 55 = .ok (.iload_n 1, 1) := by decide +kernel
theorem dX5_countDue_56 : decode cX5_countDue 56 = .ok (.ireturn, 1) := by decide +kernel
theorem dX5_mostUrgent_0 : decode cX5_mostUrgent 0 = .ok (.ldc 220, 2) := by decide +kernel
theorem dX5_mostUrgent_2 : decode cX5_mostUrgent 2 = .ok (.istore_n 2, 1) := by decide +kernel
theorem dX5_mostUrgent_3 : decode cX5_mostUrgent 3 = .ok (.iconst 0, 1) := by decide +kernel
theorem dX5_mostUrgent_4 : decode cX5_mostUrgent 4 = .ok (.istore_n 3, 1) := by decide +kernel
theorem dX5_mostUrgent_5 : decode cX5_mostUrgent 5 = .ok (.iconst 0, 1) := by decide +kernel
theorem dX5_mostUrgent_6 : decode cX5_mostUrgent 6 = .ok (.istore 4, 2) := by decide +kernel
theorem dX5_mostUrgent_8 : decode cX5_mostUrgent 8 = .ok (.iload 4, 2) := by decide +kernel
theorem dX5_mostUrgent_10 : decode cX5_mostUrgent 10 = .ok (.aload_n 0, 1) := by decide +kernel
theorem dX5_mostUrgent_11 : decode cX5_mostUrgent 11 = .ok (.getfield 11, 3) := by decide +kernel
theorem dX5_mostUrgent_14 : decode cX5_mostUrgent 14 = .ok (.arraylength, 1) := by decide +kernel
theorem dX5_mostUrgent_15 : decode cX5_mostUrgent 15 = .ok (.if_icmp .ge 84, 3) := by decide +kernel
theorem dX5_mostUrgent_18 : decode cX5_mostUrgent 18 = .ok (.aload_n 0, 1) := by decide +kernel
theorem dX5_mostUrgent_19 : decode cX5_mostUrgent 19 = .ok (.getfield 11, 3) := by decide +kernel
theorem dX5_mostUrgent_22 : decode cX5_mostUrgent 22 = .ok (.iload 4, 2) := by decide +kernel
theorem dX5_mostUrgent_24 : decode cX5_mostUrgent 24 = .ok (.aaload, 1) := by decide +kernel
theorem dX5_mostUrgent_25 : decode cX5_mostUrgent 25 = .ok (.astore 5, 2) := by decide +kernel
theorem dX5_mostUrgent_27 : decode cX5_mostUrgent 27 = .ok (.aload 5, 2) := by decide +kernel
theorem dX5_mostUrgent_29 : decode cX5_mostUrgent 29 = .ok (.ifnull 64, 3) := by decide +kernel
theorem dX5_mostUrgent_32 : decode cX5_mostUrgent 32 = .ok (.iload_n 1, 1) := by decide +kernel
theorem dX5_mostUrgent_33 : decode cX5_mostUrgent 33 = .ok (.iload 4, 2) := by decide +kernel
theorem dX5_mostUrgent_35 : decode cX5_mostUrgent 35 = .ok (.ishr, 1) := by decide +kernel
theorem dX5_mostUrgent_36 : decode cX5_mostUrgent 36 = .ok (.iconst 1, 1) := by decide +kernel
theorem dX5_mostUrgent_37 : decode cX5_mostUrgent 37 = .ok (.iand, 1) := by decide +kernel
theorem dX5_mostUrgent_38 : decode cX5_mostUrgent 38 = .ok (.iconst 1, 1) := by decide +kernel
theorem dX5_mostUrgent_39 : decode cX5_mostUrgent 39 = .ok (.if_icmp .eq 54, 3) := by decide +kernel
theorem dX5_mostUrgent_42 : decode cX5_mostUrgent 42 = .ok (.aload 5, 2) := by decide +kernel
theorem dX5_mostUrgent_44 : decode cX5_mostUrgent 44 = .ok (.aload_n 0, 1) := by decide +kernel
theorem dX5_mostUrgent_45 : decode cX5_mostUrgent 45 = .ok (.getfield 43, 3) := by decide +kernel
theorem dX5_mostUrgent_48 : decode cX5_mostUrgent 48 = .ok (.aload_n 0, 1) := by decide +kernel
theorem dX5_mostUrgent_49 : decode cX5_mostUrgent 49 = .ok (.getfield 46, 3) := by decide +kernel
theorem dX5_mostUrgent_52 : decode cX5_mostUrgent 52 = .ok (.invokevirtual 118, 3) := by decide +kernel
theorem dX5_mostUrgent_55 : decode cX5_mostUrgent 55 = .ok (.ifCond .ne 6, 3) := by decide +kernel
theorem dX5_mostUrgent_58 : decode cX5_mostUrgent 58 = .ok (.goto 35, 3) := by decide +kernel
theorem dX5_mostUrgent_61 : decode cX5_mostUrgent 61 = .ok (.aload 5, 2) := by decide +kernel
theorem dX5_mostUrgent_63 : decode cX5_mostUrgent 63 = .ok (.aload_n 0, 1) := by decide +kernel
theorem dX5_mostUrgent_64 : decode cX5_mostUrgent 64 = .ok (.getfield 46, 3) := by decide +kernel
theorem dX5_mostUrgent_67 : decode cX5_mostUrgent 67 = .ok (.invokevirtual 221, 3) := by decide +kernel
theorem dX5_mostUrgent_70 : decode cX5_mostUrgent 70 = .ok (.istore 6, 2) := by decide +kernel
theorem dX5_mostUrgent_72 : decode cX5_mostUrgent 72 = .ok (.iload_n 2, 1) := by decide +kernel
theorem dX5_mostUrgent_73 : decode cX5_mostUrgent 73 = .ok (.ldc 220, 2) := by decide +kernel
theorem dX5_mostUrgent_75 : decode cX5_mostUrgent 75 = .ok (.if_icmp .eq 12, 3) := by decide +kernel
theorem dX5_mostUrgent_78 : decode cX5_mostUrgent 78 = .ok (.iload 6, 2) := by decide +kernel
theorem dX5_mostUrgent_80 : decode cX5_mostUrgent 80 = .ok (.iload_n 3, 1) := by decide +kernel
theorem dX5_mostUrgent_81 : decode cX5_mostUrgent 81 = .ok (.if_icmp .lt 6, 3) := by decide +kernel
theorem dX5_mostUrgent_84 : decode cX5_mostUrgent 84 = .ok (.goto 9, 3) := by decide +kernel
theorem dX5_mostUrgent_87 : decode cX5_mostUrgent 87 = .ok (.iload 4, 2) := by decide +kernel
theorem dX5_mostUrgent_89 : decode cX5_mostUrgent 89 = .ok (.istore_n 2, 1) := by decide +kernel
theorem dX5_mostUrgent_90 : decode cX5_mostUrgent 90 = .ok (.iload 6, 2) := by decide +kernel
theorem dX5_mostUrgent_92 : decode cX5_mostUrgent 92 = .ok (.istore_n 3, 1) := by decide +kernel
theorem dX5_mostUrgent_93 : decode cX5_mostUrgent 93 = .ok (.iinc 4 1, 3) := by decide +kernel
theorem dX5_mostUrgent_96 : decode cX5_mostUrgent 96 = .ok (.goto (-88), 3) := by decide +kernel
theorem dX5_mostUrgent_99 : decode cX5_mostUrgent 99 = .ok (.iload_n 2, 1) := by decide +kernel
theorem dX5_mostUrgent_100 : decode cX5_mostUrgent 100 = .ok (.ireturn, 1) := by decide +kernel
theorem dX5_isNoRound_0 : decode cX5_isNoRound 0 = .ok (.iload_n 1, 1) := by decide +kernel
theorem dX5_isNoRound_1 : decode cX5_isNoRound 1 = .ok (.ifCond .le 21, 3) := by decide +kernel
theorem dX5_isNoRound_4 : decode cX5_isNoRound 4 = .ok (.iload_n 1, 1) := by decide +kernel
theorem dX5_isNoRound_5 : decode cX5_isNoRound 5 = .ok (.aload_n 0, 1) := by decide +kernel
theorem dX5_isNoRound_6 : decode cX5_isNoRound 6 = .ok (.getfield 36, 3) := by decide +kernel
theorem dX5_isNoRound_9 : decode cX5_isNoRound 9 = .ok (.ishr, 1) := by decide +kernel
theorem dX5_isNoRound_10 : decode cX5_isNoRound 10 = .ok (.ifCond .ne 12, 3) := by decide +kernel
theorem dX5_isNoRound_13 : decode cX5_isNoRound 13 = .ok (.iload_n 1, 1) := by decide +kernel
theorem dX5_isNoRound_14 : decode cX5_isNoRound 14 = .ok (.invokestatic 133, 3) := by decide +kernel
theorem dX5_isNoRound_17 : decode cX5_isNoRound 17 = .ok (.bipush 8, 2) := by decide +kernel
theorem dX5_isNoRound_19 : decode cX5_isNoRound 19 = .ok (.if_icmp .le 7, 3) := by decide +kernel
theorem dX5_isNoRound_22 : decode cX5_isNoRound 22 = .ok (.iconst 1, 1) := by decide +kernel
theorem dX5_isNoRound_23 : decode cX5_isNoRound 23 = .ok (.goto 4, 3) := by decide +kernel
theorem dX5_isNoRound_26 : decode cX5_isNoRound 26 = .ok (.iconst 0, 1) := by decide +kernel
theorem dX5_isNoRound_27 : decode cX5_isNoRound 27 = .ok (.ireturn, 1) := by decide +kernel
theorem dX5_needOf_0 : decode cX5_needOf 0 = .ok (.iconst 0, 1) := by decide +kernel
theorem dX5_needOf_1 : decode cX5_needOf 1 = .ok (.istore_n 2, 1) := by decide +kernel
theorem dX5_needOf_2 : decode cX5_needOf 2 = .ok (.iconst 0, 1) := by decide +kernel
theorem dX5_needOf_3 : decode cX5_needOf 3 = .ok (.istore_n 3, 1) := by decide +kernel
theorem dX5_needOf_4 : decode cX5_needOf 4 = .ok (.iload_n 3, 1) := by decide +kernel
theorem dX5_needOf_5 : decode cX5_needOf 5 = .ok (.aload_n 0, 1) := by decide +kernel
theorem dX5_needOf_6 : decode cX5_needOf 6 = .ok (.getfield 11, 3) := by decide +kernel
theorem dX5_needOf_9 : decode cX5_needOf 9 = .ok (.arraylength, 1) := by decide +kernel
theorem dX5_needOf_10 : decode cX5_needOf 10 = .ok (.if_icmp .ge 39, 3) := by decide +kernel
theorem dX5_needOf_13 : decode cX5_needOf 13 = .ok (.aload_n 0, 1) := by decide +kernel
theorem dX5_needOf_14 : decode cX5_needOf 14 = .ok (.getfield 11, 3) := by decide +kernel
theorem dX5_needOf_17 : decode cX5_needOf 17 = .ok (.iload_n 3, 1) := by decide +kernel
theorem dX5_needOf_18 : decode cX5_needOf 18 = .ok (.aaload, 1) := by decide +kernel
theorem dX5_needOf_19 : decode cX5_needOf 19 = .ok (.astore 4, 2) := by decide +kernel
theorem dX5_needOf_21 : decode cX5_needOf 21 = .ok (.aload 4, 2) := by decide +kernel
theorem dX5_needOf_23 : decode cX5_needOf 23 = .ok (.ifnull 20, 3) := by decide +kernel
theorem dX5_needOf_26 : decode cX5_needOf 26 = .ok (.iload_n 1, 1) := by decide +kernel
theorem dX5_needOf_27 : decode cX5_needOf 27 = .ok (.iload_n 3, 1) := by decide +kernel
theorem dX5_needOf_28 : decode cX5_needOf 28 = .ok (.ishr, 1) := by decide +kernel
theorem dX5_needOf_29 : decode cX5_needOf 29 = .ok (.iconst 1, 1) := by decide +kernel
theorem dX5_needOf_30 : decode cX5_needOf 30 = .ok (.iand, 1) := by decide +kernel
theorem dX5_needOf_31 : decode cX5_needOf 31 = .ok (.iconst 1, 1) := by decide +kernel
theorem dX5_needOf_32 : decode cX5_needOf 32 = .ok (.if_icmp .ne 11, 3) := by decide +kernel
theorem dX5_needOf_35 : decode cX5_needOf 35 = .ok (.iload_n 2, 1) := by decide +kernel
theorem dX5_needOf_36 : decode cX5_needOf 36 = .ok (.aload 4, 2) := by decide +kernel
theorem dX5_needOf_38 : decode cX5_needOf 38 = .ok (.invokevirtual 141, 3) := by decide +kernel
theorem dX5_needOf_41 : decode cX5_needOf 41 = .ok (.iadd, 1) := by decide +kernel
theorem dX5_needOf_42 : decode cX5_needOf 42 = .ok (.istore_n 2, 1) := by decide +kernel
theorem dX5_needOf_43 : decode cX5_needOf 43 = .ok (.iinc 3 1, 3) := by decide +kernel
theorem dX5_needOf_46 : decode cX5_needOf 46 = .ok (.goto (-42), 3) := by decide +kernel
theorem dX5_needOf_49 : decode cX5_needOf 49 = .ok (.iload_n 2, 1) := by decide +kernel
theorem dX5_needOf_50 : decode cX5_needOf 50 = .ok (.ireturn, 1) := by decide +kernel
end
section
theorem dX6_init_0 : decode cX6_init 0 = .ok (.aload_n 0, 1) := by decide +kernel
theorem dX6_init_1 : decode cX6_init 1 = .ok (.invokespecial 1, 3) := by decide +kernel
theorem dX6_init_4 : decode cX6_init 4 = .ok (.aload_n 0, 1) := by decide +kernel
theorem dX6_init_5 : decode cX6_init 5 = .ok (.bipush 24, 2) := by decide +kernel
theorem dX6_init_7 : decode cX6_init 7 = .ok (.newarray .int, 2) := by decide +kernel
theorem dX6_init_9 : decode cX6_init 9 = .ok (.putfield 7, 3) := by decide +kernel
theorem dX6_init_12 : decode cX6_init 12 = .ok (.aload_n 0, 1) := by decide +kernel
theorem dX6_init_13 : decode cX6_init 13 = .ok (.bipush 24, 2) := by decide +kernel
theorem dX6_init_15 : decode cX6_init 15 = .ok (.newarray .int, 2) := by decide +kernel
theorem dX6_init_17 : decode cX6_init 17 = .ok (.putfield 13, 3) := by decide +kernel
theorem dX6_init_20 : decode cX6_init 20 = .ok (.aload_n 0, 1) := by decide +kernel
theorem dX6_init_21 : decode cX6_init 21 = .ok (.bipush 24, 2) := by decide +kernel
theorem dX6_init_23 : decode cX6_init 23 = .ok (.newarray .int, 2) := by decide +kernel
theorem dX6_init_25 : decode cX6_init 25 = .ok (.putfield 16, 3) := by decide +kernel
theorem dX6_init_28 : decode cX6_init 28 = .ok (.aload_n 0, 1) := by decide +kernel
theorem dX6_init_29 : decode cX6_init 29 = .ok (.bipush 96, 2) := by decide +kernel
theorem dX6_init_31 : decode cX6_init 31 = .ok (.newarray .int, 2) := by decide +kernel
theorem dX6_init_33 : decode cX6_init 33 = .ok (.putfield 19, 3) := by decide +kernel
theorem dX6_init_36 : decode cX6_init 36 = .ok (.aload_n 0, 1) := by decide +kernel
theorem dX6_init_37 : decode cX6_init 37 = .ok (.bipush 24, 2) := by decide +kernel
theorem dX6_init_39 : decode cX6_init 39 = .ok (.newarray .int, 2) := by decide +kernel
theorem dX6_init_41 : decode cX6_init 41 = .ok (.putfield 22, 3) := by decide +kernel
theorem dX6_init_44 : decode cX6_init 44 = .ok (.aload_n 0, 1) := by decide +kernel
theorem dX6_init_45 : decode cX6_init 45 = .ok (.bipush 24, 2) := by decide +kernel
theorem dX6_init_47 : decode cX6_init 47 = .ok (.newarray .int, 2) := by decide +kernel
theorem dX6_init_49 : decode cX6_init 49 = .ok (.putfield 25, 3) := by decide +kernel
theorem dX6_init_52 : decode cX6_init 52 = .ok (.aload_n 0, 1) := by decide +kernel
theorem dX6_init_53 : decode cX6_init 53 = .ok (.bipush 24, 2) := by decide +kernel
theorem dX6_init_55 : decode cX6_init 55 = .ok (.newarray .int, 2) := by decide +kernel
theorem dX6_init_57 : decode cX6_init 57 = .ok (.putfield 28, 3) := by decide +kernel
theorem dX6_init_60 : decode cX6_init 60 = .ok (.aload_n 0, 1) := by decide +kernel
theorem dX6_init_61 : decode cX6_init 61 = .ok (.bipush 24, 2) := by decide +kernel
theorem dX6_init_63 : decode cX6_init 63 = .ok (.newarray .int, 2) := by decide +kernel
theorem dX6_init_65 : decode cX6_init 65 = .ok (.putfield 31, 3) := by decide +kernel
theorem dX6_init_68 : decode cX6_init 68 = .ok (.aload_n 0, 1) := by decide +kernel
theorem dX6_init_69 : decode cX6_init 69 = .ok (.bipush 24, 2) := by decide +kernel
theorem dX6_init_71 : decode cX6_init 71 = .ok (.newarray .boolean, 2) := by decide +kernel
theorem dX6_init_73 : decode cX6_init 73 = .ok (.putfield 34, 3) := by decide +kernel
theorem dX6_init_76 : decode cX6_init 76 = .ok (.aload_n 0, 1) := by decide +kernel
theorem dX6_init_77 : decode cX6_init 77 = .ok (.bipush 24, 2) := by decide +kernel
theorem dX6_init_79 : decode cX6_init 79 = .ok (.newarray .int, 2) := by decide +kernel
theorem dX6_init_81 : decode cX6_init 81 = .ok (.putfield 38, 3) := by decide +kernel
theorem dX6_init_84 : decode cX6_init 84 = .ok (.aload_n 0, 1) := by decide +kernel
theorem dX6_init_85 : decode cX6_init 85 = .ok (.bipush 24, 2) := by decide +kernel
theorem dX6_init_87 : decode cX6_init 87 = .ok (.newarray .int, 2) := by decide +kernel
theorem dX6_init_89 : decode cX6_init 89 = .ok (.putfield 41, 3) := by decide +kernel
theorem dX6_init_92 : decode cX6_init 92 = .ok (.aload_n 0, 1) := by decide +kernel
theorem dX6_init_93 : decode cX6_init 93 = .ok (.bipush 24, 2) := by decide +kernel
theorem dX6_init_95 : decode cX6_init 95 = .ok (.newarray .int, 2) := by decide +kernel
theorem dX6_init_97 : decode cX6_init 97 = .ok (.putfield 44, 3) := by decide +kernel
theorem dX6_init_100 : decode cX6_init 100 = .ok (.aload_n 0, 1) := by decide +kernel
theorem dX6_init_101 : decode cX6_init 101 = .ok (.bipush 24, 2) := by decide +kernel
theorem dX6_init_103 : decode cX6_init 103 = .ok (.newarray .int, 2) := by decide +kernel
theorem dX6_init_105 : decode cX6_init 105 = .ok (.putfield 47, 3) := by decide +kernel
theorem dX6_init_108 : decode cX6_init 108 = .ok (.aload_n 0, 1) := by decide +kernel
theorem dX6_init_109 : decode cX6_init 109 = .ok (.bipush 24, 2) := by decide +kernel
theorem dX6_init_111 : decode cX6_init 111 = .ok (.newarray .int, 2) := by decide +kernel
theorem dX6_init_113 : decode cX6_init 113 = .ok (.putfield 50, 3) := by decide +kernel
theorem dX6_init_116 : decode cX6_init 116 = .ok (.aload_n 0, 1) := by decide +kernel
theorem dX6_init_117 : decode cX6_init 117 = .ok (.iconst 3, 1) := by decide +kernel
theorem dX6_init_118 : decode cX6_init 118 = .ok (.putfield 53, 3) := by decide +kernel
theorem dX6_init_121 : decode cX6_init 121 = .ok (.aload_n 0, 1) := by decide +kernel
theorem dX6_init_122 : decode cX6_init 122 = .ok (.bipush 20, 2) := by decide +kernel
theorem dX6_init_124 : decode cX6_init 124 = .ok (.putfield 57, 3) := by decide +kernel
theorem dX6_init_127 : decode cX6_init 127 = .ok (.aload_n 0, 1) := by decide +kernel
theorem dX6_init_128 : decode cX6_init 128 = .ok (.sipush 3000, 3) := by decide +kernel
theorem dX6_init_131 : decode cX6_init 131 = .ok (.putfield 60, 3) := by decide +kernel
theorem dX6_init_134 : decode cX6_init 134 = .ok (.aload_n 0, 1) := by decide +kernel
theorem dX6_init_135 : decode cX6_init 135 = .ok (.bipush 100, 2) := by decide +kernel
theorem dX6_init_137 : decode cX6_init 137 = .ok (.putfield 63, 3) := by decide +kernel
theorem dX6_init_140 : decode cX6_init 140 = .ok (.aload_n 0, 1) := by decide +kernel
theorem dX6_init_141 : decode cX6_init 141 = .ok (.bipush 8, 2) := by decide +kernel
theorem dX6_init_143 : decode cX6_init 143 = .ok (.newarray .int, 2) := by decide +kernel
theorem dX6_init_145 : decode cX6_init 145 = .ok (.putfield 66, 3) := by decide +kernel
theorem dX6_init_148 : decode cX6_init 148 = .ok (.aload_n 0, 1) := by decide +kernel
theorem dX6_init_149 : decode cX6_init 149 = .ok (.sipush 2048, 3) := by decide +kernel
theorem dX6_init_152 : decode cX6_init 152 = .ok (.newarray .int, 2) := by decide +kernel
theorem dX6_init_154 : decode cX6_init 154 = .ok (.putfield 69, 3) := by decide +kernel
theorem dX6_init_157 : decode cX6_init 157 = .ok (.aload_n 0, 1) := by decide +kernel
theorem dX6_init_158 : decode cX6_init 158 = .ok (.sipush 300, 3) := by decide +kernel
theorem dX6_init_161 : decode cX6_init 161 = .ok (.newarray .int, 2) := by decide +kernel
theorem dX6_init_163 : decode cX6_init 163 = .ok (.putfield 72, 3) := by decide +kernel
theorem dX6_init_166 : decode cX6_init 166 = .ok (.aload_n 0, 1) := by decide +kernel
theorem dX6_init_167 : decode cX6_init 167 = .ok (.bipush 40, 2) := by decide +kernel
theorem dX6_init_169 : decode cX6_init 169 = .ok (.newarray .int, 2) := by decide +kernel
theorem dX6_init_171 : decode cX6_init 171 = .ok (.putfield 75, 3) := by decide +kernel
theorem dX6_init_174 : decode cX6_init 174 = .ok (.aload_n 0, 1) := by decide +kernel
theorem dX6_init_175 : decode cX6_init 175 = .ok (.bipush 40, 2) := by decide +kernel
theorem dX6_init_177 : decode cX6_init 177 = .ok (.newarray .int, 2) := by decide +kernel
theorem dX6_init_179 : decode cX6_init 179 = .ok (.putfield 78, 3) := by decide +kernel
theorem dX6_init_182 : decode cX6_init 182 = .ok (.aload_n 0, 1) := by decide +kernel
theorem dX6_init_183 : decode cX6_init 183 = .ok (.bipush 40, 2) := by decide +kernel
theorem dX6_init_185 : decode cX6_init 185 = .ok (.newarray .int, 2) := by decide +kernel
theorem dX6_init_187 : decode cX6_init 187 = .ok (.putfield 81, 3) := by decide +kernel
theorem dX6_init_190 : decode cX6_init 190 = .ok (.aload_n 0, 1) := by decide +kernel
theorem dX6_init_191 : decode cX6_init 191 = .ok (.bipush 40, 2) := by decide +kernel
theorem dX6_init_193 : decode cX6_init 193 = .ok (.newarray .int, 2) := by decide +kernel
theorem dX6_init_195 : decode cX6_init 195 = .ok (.putfield 84, 3) := by decide +kernel
theorem dX6_init_198 : decode cX6_init 198 = .ok (.aload_n 0, 1) := by decide +kernel
theorem dX6_init_199 : decode cX6_init 199 = .ok (.bipush 16, 2) := by decide +kernel
theorem dX6_init_201 : decode cX6_init 201 = .ok (.newarray .int, 2) := by decide +kernel
theorem dX6_init_203 : decode cX6_init 203 = .ok (.putfield 87, 3) := by decide +kernel
theorem dX6_init_206 : decode cX6_init 206 = .ok (.return_, 1) := by decide +kernel
theorem dX6_in_0 : decode cX6_in 0 = .ok (.lload_n 0, 1) := by decide +kernel
theorem dX6_in_1 : decode cX6_in 1 = .ok (.lload_n 2, 1) := by decide +kernel
theorem dX6_in_2 : decode cX6_in 2 = .ok (.lcmp, 1) := by decide +kernel
theorem dX6_in_3 : decode cX6_in 3 = .ok (.ifCond .lt 14, 3) := by decide +kernel
theorem dX6_in_6 : decode cX6_in 6 = .ok (.lload_n 0, 1) := by decide +kernel
theorem dX6_in_7 : decode cX6_in 7 = .ok (.lload 4, 2) := by decide +kernel
theorem dX6_in_9 : decode cX6_in 9 = .ok (.lcmp, 1) := by decide +kernel
theorem dX6_in_10 : decode cX6_in 10 = .ok (.ifCond .gt 7, 3) := by decide +kernel
theorem dX6_in_13 : decode cX6_in 13 = .ok (.iconst 1, 1) := by decide +kernel
theorem dX6_in_14 : decode cX6_in 14 = .ok (.goto 4, 3) := by decide +kernel
theorem dX6_in_17 : decode cX6_in 17 = .ok (.iconst 0, 1) := by decide +kernel
theorem dX6_in_18 : decode cX6_in 18 = .ok (.ireturn, 1) := by decide +kernel
theorem dX6_isHouse_0 : decode cX6_isHouse 0 = .ok (.iload_n 1, 1) := by decide +kernel
theorem dX6_isHouse_1 : decode cX6_isHouse 1 = .ok (.i2l, 1) := by decide +kernel
theorem dX6_isHouse_2 : decode cX6_isHouse 2 = .ok (.lconst 0, 1) := by decide +kernel
theorem dX6_isHouse_3 : decode cX6_isHouse 3 = .ok (.aload_n 0, 1) := by decide +kernel
theorem dX6_isHouse_4 : decode cX6_isHouse 4 = .ok (.getfield 93, 3) := by decide +kernel
theorem dX6_isHouse_7 : decode cX6_isHouse 7 = .ok (.iconst 1, 1) := by decide +kernel
theorem dX6_isHouse_8 : decode cX6_isHouse 8 = .ok (.isub, 1) := by decide +kernel
theorem dX6_isHouse_9 : decode cX6_isHouse 9 = .ok (.i2l, 1) := by decide +kernel
theorem dX6_isHouse_10 : decode cX6_isHouse 10 = .ok (.invokestatic 96, 3) := by decide +kernel
theorem dX6_isHouse_13 : decode cX6_isHouse 13 = .ok (.ireturn, 1) := by decide +kernel
theorem dX6_house_0 : decode cX6_house 0 = .ok (.aload_n 0, 1) := by decide +kernel
theorem dX6_house_1 : decode cX6_house 1 = .ok (.iconst 0, 1) := by decide +kernel
theorem dX6_house_2 : decode cX6_house 2 = .ok (.putfield 90, 3) := by decide +kernel
theorem dX6_house_5 : decode cX6_house 5 = .ok (.iload_n 1, 1) := by decide +kernel
theorem dX6_house_6 : decode cX6_house 6 = .ok (.i2l, 1) := by decide +kernel
theorem dX6_house_7 : decode cX6_house 7 = .ok (.lconst 0, 1) := by decide +kernel
theorem dX6_house_8 : decode cX6_house 8 = .ok (.ldc2_w 100, 3) := by decide +kernel
theorem dX6_house_11 : decode cX6_house 11 = .ok (.invokestatic 96, 3) := by decide +kernel
theorem dX6_house_14 : decode cX6_house 14 = .ok (.ifCond .eq 29, 3) := by decide +kernel
theorem dX6_house_17 : decode cX6_house 17 = .ok (.iload_n 2, 1) := by decide +kernel
theorem dX6_house_18 : decode cX6_house 18 = .ok (.i2l, 1) := by decide +kernel
theorem dX6_house_19 : decode cX6_house 19 = .ok (.lconst 0, 1) := by decide +kernel
theorem dX6_house_20 : decode cX6_house 20 = .ok (.ldc2_w 100, 3) := by decide +kernel
theorem dX6_house_23 : decode cX6_house 23 = .ok (.invokestatic 96, 3) := by decide +kernel
theorem dX6_house_26 : decode cX6_house 26 = .ok (.ifCond .eq 17, 3) := by decide +kernel
theorem dX6_house_29 : decode cX6_house 29 = .ok (.iload_n 3, 1) := by decide +kernel
theorem dX6_house_30 : decode cX6_house 30 = .ok (.i2l, 1) := by decide +kernel
theorem dX6_house_31 : decode cX6_house 31 = .ok (.ldc2_w 102, 3) := by decide +kernel
theorem dX6_house_34 : decode cX6_house 34 = .ok (.ldc2_w 104, 3) := by decide +kernel
theorem dX6_house_37 : decode cX6_house 37 = .ok (.invokestatic 96, 3) := by decide +kernel
theorem dX6_house_40 : decode cX6_house 40 = .ok (.ifCond .ne 6, 3) := by decide +kernel
theorem dX6_house_43 : decode cX6_house 43 = .ok (.ldc 106, 2) := by decide +kernel
theorem dX6_house_45 : decode cX6_house 45 = .ok (.ireturn, 1) := by decide +kernel
theorem dX6_house_46 : decode cX6_house 46 = .ok (.aload_n 0, 1) := by decide +kernel
theorem dX6_house_47 : decode cX6_house 47 = .ok (.getfield 93, 3) := by decide +kernel
theorem dX6_house_50 : decode cX6_house 50 = .ok (.bipush 24, 2) := by decide +kernel
theorem dX6_house_52 : decode cX6_house 52 = .ok (.if_icmp .ne 6, 3) := by decide +kernel
theorem dX6_house_55 : decode cX6_house 55 = .ok (.ldc 107, 2) := by decide +kernel
theorem dX6_house_57 : decode cX6_house 57 = .ok (.ireturn, 1) := by decide +kernel
theorem dX6_house_58 : decode cX6_house 58 = .ok (.aload_n 0, 1) := by decide +kernel
theorem dX6_house_59 : decode cX6_house 59 = .ok (.getfield 93, 3) := by decide +kernel
theorem dX6_house_62 : decode cX6_house 62 = .ok (.istore 4, 2) := by decide +kernel
theorem dX6_house_64 : decode cX6_house 64 = .ok (.aload_n 0, 1) := by decide +kernel
theorem dX6_house_65 : decode cX6_house 65 = .ok (.getfield 7, 3) := by decide +kernel
theorem dX6_house_68 : decode cX6_house 68 = .ok (.iload 4, 2) := by decide +kernel
theorem dX6_house_70 : decode cX6_house 70 = .ok (.iload_n 1, 1) := by decide +kernel
theorem dX6_house_71 : decode cX6_house 71 = .ok (.iastore, 1) := by decide +kernel
theorem dX6_house_72 : decode cX6_house 72 = .ok (.aload_n 0, 1) := by decide +kernel
theorem dX6_house_73 : decode cX6_house 73 = .ok (.getfield 13, 3) := by decide +kernel
theorem dX6_house_76 : decode cX6_house 76 = .ok (.iload 4, 2) := by decide +kernel
theorem dX6_house_78 : decode cX6_house 78 = .ok (.iload_n 2, 1) := by decide +kernel
theorem dX6_house_79 : decode cX6_house 79 = .ok (.iastore, 1) := by decide +kernel
theorem dX6_house_80 : decode cX6_house 80 = .ok (.aload_n 0, 1) := by decide +kernel
theorem dX6_house_81 : decode cX6_house 81 = .ok (.getfield 16, 3) := by decide +kernel
theorem dX6_house_84 : decode cX6_house 84 = .ok (.iload 4, 2) := by decide +kernel
theorem dX6_house_86 : decode cX6_house 86 = .ok (.iload_n 3, 1) := by decide +kernel
theorem dX6_house_87 : decode cX6_house 87 = .ok (.iastore, 1) := by decide +kernel
theorem dX6_house_88 : decode cX6_house 88 = .ok (.aload_n 0, 1) := by decide +kernel
theorem dX6_house_89 : decode cX6_house 89 = .ok (.getfield 19, 3) := by decide +kernel
theorem dX6_house_92 : decode cX6_house 92 = .ok (.iconst 4, 1) := by decide +kernel
theorem dX6_house_93 : decode cX6_house 93 = .ok (.iload 4, 2) := by decide +kernel
theorem dX6_house_95 : decode cX6_house 95 = .ok (.imul, 1) := by decide +kernel
theorem dX6_house_96 : decode cX6_house 96 = .ok (.iconst 0, 1) := by decide +kernel
theorem dX6_house_97 : decode cX6_house 97 = .ok (.iastore, 1) := by decide +kernel
theorem dX6_house_98 : decode cX6_house 98 = .ok (.aload_n 0, 1) := by decide +kernel
theorem dX6_house_99 : decode cX6_house 99 = .ok (.getfield 19, 3) := by decide +kernel
theorem dX6_house_102 : decode cX6_house 102 = .ok (.iconst 4, 1) := by decide +kernel
theorem dX6_house_103 : decode cX6_house 103 = .ok (.iload 4, 2) := by decide +kernel
theorem dX6_house_105 : decode cX6_house 105 = .ok (.imul, 1) := by decide +kernel
theorem dX6_house_106 : decode cX6_house 106 = .ok (.iconst 1, 1) := by decide +kernel
theorem dX6_house_107 : decode cX6_house 107 = .ok (.iadd, 1) := by decide +kernel
theorem dX6_house_108 : decode cX6_house 108 = .ok (.iconst 0, 1) := by decide +kernel
theorem dX6_house_109 : decode cX6_house 109 = .ok (.iastore, 1) := by decide +kernel
theorem dX6_house_110 : decode cX6_house 110 = .ok (.aload_n 0, 1) := by decide +kernel
theorem dX6_house_111 : decode cX6_house 111 = .ok (.getfield 19, 3) := by decide +kernel
theorem dX6_house_114 : decode cX6_house 114 = .ok (.iconst 4, 1) := by decide +kernel
theorem dX6_house_115 : decode cX6_house 115 = .ok (.iload 4, 2) := by decide +kernel
theorem dX6_house_117 : decode cX6_house 117 = .ok (.imul, 1) := by decide +kernel
theorem dX6_house_118 : decode cX6_house 118 = .ok (.iconst 2, 1) := by decide +kernel
theorem dX6_house_119 : decode cX6_house 119 = .ok (.iadd, 1) := by decide +kernel
theorem dX6_house_120 : decode cX6_house 120 = .ok (.bipush 50, 2) := by decide +kernel
theorem dX6_house_122 : decode cX6_house 122 = .ok (.iastore, 1) := by decide +kernel
theorem dX6_house_123 : decode cX6_house 123 = .ok (.aload_n 0, 1) := by decide +kernel
theorem dX6_house_124 : decode cX6_house 124 = .ok (.getfield 19, 3) := by decide +kernel
theorem dX6_house_127 : decode cX6_house 127 = .ok (.iconst 4, 1) := by decide +kernel
theorem dX6_house_128 : decode cX6_house 128 = .ok (.iload 4, 2) := by decide +kernel
theorem dX6_house_130 : decode cX6_house 130 = .ok (.imul, 1) := by decide +kernel
theorem dX6_house_131 : decode cX6_house 131 = .ok (.iconst 3, 1) := by decide +kernel
theorem dX6_house_132 : decode cX6_house 132 = .ok (.iadd, 1) := by decide +kernel
theorem dX6_house_133 : decode cX6_house 133 = .ok (.bipush 50, 2) := by decide +kernel
theorem dX6_house_135 : decode cX6_house 135 = .ok (.iastore, 1) := by decide +kernel
theorem dX6_house_136 : decode cX6_house 136 = .ok (.aload_n 0, 1) := by decide +kernel
theorem dX6_house_137 : decode cX6_house 137 = .ok (.getfield 22, 3) := by decide +kernel
theorem dX6_house_140 : decode cX6_house 140 = .ok (.iload 4, 2) := by decide +kernel
theorem dX6_house_142 : decode cX6_house 142 = .ok (.iload_n 3, 1) := by decide +kernel
theorem dX6_house_143 : decode cX6_house 143 = .ok (.iastore, 1) := by decide +kernel
theorem dX6_house_144 : decode cX6_house 144 = .ok (.aload_n 0, 1) := by decide +kernel
theorem dX6_house_145 : decode cX6_house 145 = .ok (.getfield 25, 3) := by decide +kernel
theorem dX6_house_148 : decode cX6_house 148 = .ok (.iload 4, 2) := by decide +kernel
theorem dX6_house_150 : decode cX6_house 150 = .ok (.iload_n 3, 1) := by decide +kernel
theorem dX6_house_151 : decode cX6_house 151 = .ok (.iastore, 1) := by decide +kernel
theorem dX6_house_152 : decode cX6_house 152 = .ok (.aload_n 0, 1) := by decide +kernel
theorem dX6_house_153 : decode cX6_house 153 = .ok (.dup, 1) := by decide +kernel
theorem dX6_house_154 : decode cX6_house 154 = .ok (.getfield 93, 3) := by decide +kernel
theorem dX6_house_157 : decode cX6_house 157 = .ok (.iconst 1, 1) := by decide +kernel
theorem dX6_house_158 : decode cX6_house 158 = .ok (.iadd, 1) := by decide +kernel
theorem dX6_house_159 : decode cX6_house 159 = .ok (.putfield 93, 3) := by decide +kernel
theorem dX6_house_162 : decode cX6_house 162 = .ok (.iload 4, 2) := by decide +kernel
theorem dX6_house_164 : decode cX6_house 164 = .ok (.ireturn, 1) := by decide +kernel
theorem dX6_prior_0 : decode cX6_prior 0 = .ok (.aload_n 0, 1) := by decide +kernel
theorem dX6_prior_1 : decode cX6_prior 1 = .ok (.iconst 0, 1) := by decide +kernel
theorem dX6_prior_2 : decode cX6_prior 2 = .ok (.putfield 90, 3) := by decide +kernel
theorem dX6_prior_5 : decode cX6_prior 5 = .ok (.aload_n 0, 1) := by decide +kernel
theorem dX6_prior_6 : decode cX6_prior 6 = .ok (.iload_n 1, 1) := by decide +kernel
theorem dX6_prior_7 : decode cX6_prior 7 = .ok (.invokevirtual 108, 3) := by decide +kernel
theorem dX6_prior_10 : decode cX6_prior 10 = .ok (.ifCond .eq 55, 3) := by decide +kernel
theorem dX6_prior_13 : decode cX6_prior 13 = .ok (.iload_n 2, 1) := by decide +kernel
theorem dX6_prior_14 : decode cX6_prior 14 = .ok (.i2l, 1) := by decide +kernel
theorem dX6_prior_15 : decode cX6_prior 15 = .ok (.lconst 0, 1) := by decide +kernel
theorem dX6_prior_16 : decode cX6_prior 16 = .ok (.ldc2_w 100, 3) := by decide +kernel
theorem dX6_prior_19 : decode cX6_prior 19 = .ok (.invokestatic 96, 3) := by decide +kernel
theorem dX6_prior_22 : decode cX6_prior 22 = .ok (.ifCond .eq 43, 3) := by decide +kernel
theorem dX6_prior_25 : decode cX6_prior 25 = .ok (.iload_n 3, 1) := by decide +kernel
theorem dX6_prior_26 : decode cX6_prior 26 = .ok (.i2l, 1) := by decide +kernel
theorem dX6_prior_27 : decode cX6_prior 27 = .ok (.lconst 0, 1) := by decide +kernel
theorem dX6_prior_28 : decode cX6_prior 28 = .ok (.ldc2_w 100, 3) := by decide +kernel
theorem dX6_prior_31 : decode cX6_prior 31 = .ok (.invokestatic 96, 3) := by decide +kernel
theorem dX6_prior_34 : decode cX6_prior 34 = .ok (.ifCond .eq 31, 3) := by decide +kernel
theorem dX6_prior_37 : decode cX6_prior 37 = .ok (.iload 4, 2) := by decide +kernel
theorem dX6_prior_39 : decode cX6_prior 39 = .ok (.i2l, 1) := by decide +kernel
theorem dX6_prior_40 : decode cX6_prior 40 = .ok (.iload_n 2, 1) := by decide +kernel
theorem dX6_prior_41 : decode cX6_prior 41 = .ok (.i2l, 1) := by decide +kernel
theorem dX6_prior_42 : decode cX6_prior 42 = .ok (.ldc2_w 100, 3) := by decide +kernel
theorem dX6_prior_45 : decode cX6_prior 45 = .ok (.invokestatic 96, 3) := by decide +kernel
theorem dX6_prior_48 : decode cX6_prior 48 = .ok (.ifCond .eq 17, 3) := by decide +kernel
theorem dX6_prior_51 : decode cX6_prior 51 = .ok (.iload 5, 2) := by decide +kernel
theorem dX6_prior_53 : decode cX6_prior 53 = .ok (.i2l, 1) := by decide +kernel
theorem dX6_prior_54 : decode cX6_prior 54 = .ok (.iload_n 3, 1) := by decide +kernel
theorem dX6_prior_55 : decode cX6_prior 55 = .ok (.i2l, 1) := by decide +kernel
theorem dX6_prior_56 : decode cX6_prior 56 = .ok (.ldc2_w 100, 3) := by decide +kernel
theorem dX6_prior_59 : decode cX6_prior 59 = .ok (.invokestatic 96, 3) := by decide +kernel
theorem dX6_prior_62 : decode cX6_prior 62 = .ok (.ifCond .ne 6, 3) := by decide +kernel
theorem dX6_prior_65 : decode cX6_prior 65 = .ok (.ldc 106, 2) := by decide +kernel
theorem dX6_prior_67 : decode cX6_prior 67 = .ok (.ireturn, 1) := by decide +kernel
theorem dX6_prior_68 : decode cX6_prior 68 = .ok (.aload_n 0, 1) := by decide +kernel
theorem dX6_prior_69 : decode cX6_prior 69 = .ok (.getfield 28, 3) := by decide +kernel
theorem dX6_prior_72 : decode cX6_prior 72 = .ok (.iload_n 1, 1) := by decide +kernel
theorem dX6_prior_73 : decode cX6_prior 73 = .ok (.iaload, 1) := by decide +kernel
theorem dX6_prior_74 : decode cX6_prior 74 = .ok (.ifCond .gt 12, 3) := by decide +kernel
theorem dX6_prior_77 : decode cX6_prior 77 = .ok (.aload_n 0, 1) := by decide +kernel
theorem dX6_prior_78 : decode cX6_prior 78 = .ok (.getfield 38, 3) := by decide +kernel
theorem dX6_prior_81 : decode cX6_prior 81 = .ok (.iload_n 1, 1) := by decide +kernel
theorem dX6_prior_82 : decode cX6_prior 82 = .ok (.iaload, 1) := by decide +kernel
theorem dX6_prior_83 : decode cX6_prior 83 = .ok (.ifCond .le 6, 3) := by decide +kernel
theorem dX6_prior_86 : decode cX6_prior 86 = .ok (.ldc 112, 2) := by decide +kernel
theorem dX6_prior_88 : decode cX6_prior 88 = .ok (.ireturn, 1) := by decide +kernel
theorem dX6_prior_89 : decode cX6_prior 89 = .ok (.aload_n 0, 1) := by decide +kernel
theorem dX6_prior_90 : decode cX6_prior 90 = .ok (.getfield 19, 3) := by decide +kernel
theorem dX6_prior_93 : decode cX6_prior 93 = .ok (.iconst 4, 1) := by decide +kernel
theorem dX6_prior_94 : decode cX6_prior 94 = .ok (.iload_n 1, 1) := by decide +kernel
theorem dX6_prior_95 : decode cX6_prior 95 = .ok (.imul, 1) := by decide +kernel
theorem dX6_prior_96 : decode cX6_prior 96 = .ok (.iload_n 2, 1) := by decide +kernel
theorem dX6_prior_97 : decode cX6_prior 97 = .ok (.iastore, 1) := by decide +kernel
theorem dX6_prior_98 : decode cX6_prior 98 = .ok (.aload_n 0, 1) := by decide +kernel
theorem dX6_prior_99 : decode cX6_prior 99 = .ok (.getfield 19, 3) := by decide +kernel
theorem dX6_prior_102 : decode cX6_prior 102 = .ok (.iconst 4, 1) := by decide +kernel
theorem dX6_prior_103 : decode cX6_prior 103 = .ok (.iload_n 1, 1) := by decide +kernel
theorem dX6_prior_104 : decode cX6_prior 104 = .ok (.imul, 1) := by decide +kernel
theorem dX6_prior_105 : decode cX6_prior 105 = .ok (.iconst 1, 1) := by decide +kernel
theorem dX6_prior_106 : decode cX6_prior 106 = .ok (.iadd, 1) := by decide +kernel
theorem dX6_prior_107 : decode cX6_prior 107 = .ok (.iload_n 3, 1) := by decide +kernel
theorem dX6_prior_108 : decode cX6_prior 108 = .ok (.iastore, 1) := by decide +kernel
theorem dX6_prior_109 : decode cX6_prior 109 = .ok (.aload_n 0, 1) := by decide +kernel
theorem dX6_prior_110 : decode cX6_prior 110 = .ok (.getfield 19, 3) := by decide +kernel
theorem dX6_prior_113 : decode cX6_prior 113 = .ok (.iconst 4, 1) := by decide +kernel
theorem dX6_prior_114 : decode cX6_prior 114 = .ok (.iload_n 1, 1) := by decide +kernel
theorem dX6_prior_115 : decode cX6_prior 115 = .ok (.imul, 1) := by decide +kernel
theorem dX6_prior_116 : decode cX6_prior 116 = .ok (.iconst 2, 1) := by decide +kernel
theorem dX6_prior_117 : decode cX6_prior 117 = .ok (.iadd, 1) := by decide +kernel
theorem dX6_prior_118 : decode cX6_prior 118 = .ok (.iload 4, 2) := by decide +kernel
theorem dX6_prior_120 : decode cX6_prior 120 = .ok (.iastore, 1) := by decide +kernel
theorem dX6_prior_121 : decode cX6_prior 121 = .ok (.aload_n 0, 1) := by decide +kernel
theorem dX6_prior_122 : decode cX6_prior 122 = .ok (.getfield 19, 3) := by decide +kernel
theorem dX6_prior_125 : decode cX6_prior 125 = .ok (.iconst 4, 1) := by decide +kernel
theorem dX6_prior_126 : decode cX6_prior 126 = .ok (.iload_n 1, 1) := by decide +kernel
theorem dX6_prior_127 : decode cX6_prior 127 = .ok (.imul, 1) := by decide +kernel
theorem dX6_prior_128 : decode cX6_prior 128 = .ok (.iconst 3, 1) := by decide +kernel
theorem dX6_prior_129 : decode cX6_prior 129 = .ok (.iadd, 1) := by decide +kernel
theorem dX6_prior_130 : decode cX6_prior 130 = .ok (.iload 5, 2) := by decide +kernel
theorem dX6_prior_132 : decode cX6_prior 132 = .ok (.iastore, 1) := by decide +kernel
theorem dX6_prior_133 : decode cX6_prior 133 = .ok (.iconst 1, 1) := by decide +kernel
theorem dX6_prior_134 : decode cX6_prior 134 = .ok (.ireturn, 1) := by decide +kernel
theorem dX6_lowOf_0 : decode cX6_lowOf 0 = .ok (.aload_n 0, 1) := by decide +kernel
theorem dX6_lowOf_1 : decode cX6_lowOf 1 = .ok (.getfield 19, 3) := by decide +kernel
theorem dX6_lowOf_4 : decode cX6_lowOf 4 = .ok (.iconst 4, 1) := by decide +kernel
theorem dX6_lowOf_5 : decode cX6_lowOf 5 = .ok (.iload_n 1, 1) := by decide +kernel
theorem dX6_lowOf_6 : decode cX6_lowOf 6 = .ok (.imul, 1) := by decide +kernel
theorem dX6_lowOf_7 : decode cX6_lowOf 7 = .ok (.iaload, 1) := by decide +kernel
theorem dX6_lowOf_8 : decode cX6_lowOf 8 = .ok (.aload_n 0, 1) := by decide +kernel
theorem dX6_lowOf_9 : decode cX6_lowOf 9 = .ok (.getfield 19, 3) := by decide +kernel
theorem dX6_lowOf_12 : decode cX6_lowOf 12 = .ok (.iconst 4, 1) := by decide +kernel
theorem dX6_lowOf_13 : decode cX6_lowOf 13 = .ok (.iload_n 1, 1) := by decide +kernel
theorem dX6_lowOf_14 : decode cX6_lowOf 14 = .ok (.imul, 1) := by decide +kernel
theorem dX6_lowOf_15 : decode cX6_lowOf 15 = .ok (.iconst 1, 1) := by decide +kernel
theorem dX6_lowOf_16 : decode cX6_lowOf 16 = .ok (.iadd, 1) := by decide +kernel
theorem dX6_lowOf_17 : decode cX6_lowOf 17 = .ok (.iaload, 1) := by decide +kernel
theorem dX6_lowOf_18 : decode cX6_lowOf 18 = .ok (.iload_n 2, 1) := by decide +kernel
theorem dX6_lowOf_19 : decode cX6_lowOf 19 = .ok (.imul, 1) := by decide +kernel
theorem dX6_lowOf_20 : decode cX6_lowOf 20 = .ok (.iadd, 1) := by decide +kernel
theorem dX6_lowOf_21 : decode cX6_lowOf 21 = .ok (.ireturn, 1) := by decide +kernel
theorem dX6_highOf_0 : decode cX6_highOf 0 = .ok (.aload_n 0, 1) := by decide +kernel
theorem dX6_highOf_1 : decode cX6_highOf 1 = .ok (.getfield 19, 3) := by decide +kernel
theorem dX6_highOf_4 : decode cX6_highOf 4 = .ok (.iconst 4, 1) := by decide +kernel
theorem dX6_highOf_5 : decode cX6_highOf 5 = .ok (.iload_n 1, 1) := by decide +kernel
theorem dX6_highOf_6 : decode cX6_highOf 6 = .ok (.imul, 1) := by decide +kernel
theorem dX6_highOf_7 : decode cX6_highOf 7 = .ok (.iconst 2, 1) := by decide +kernel
theorem dX6_highOf_8 : decode cX6_highOf 8 = .ok (.iadd, 1) := by decide +kernel
theorem dX6_highOf_9 : decode cX6_highOf 9 = .ok (.iaload, 1) := by decide +kernel
theorem dX6_highOf_10 : decode cX6_highOf 10 = .ok (.aload_n 0, 1) := by decide +kernel
theorem dX6_highOf_11 : decode cX6_highOf 11 = .ok (.getfield 19, 3) := by decide +kernel
theorem dX6_highOf_14 : decode cX6_highOf 14 = .ok (.iconst 4, 1) := by decide +kernel
theorem dX6_highOf_15 : decode cX6_highOf 15 = .ok (.iload_n 1, 1) := by decide +kernel
theorem dX6_highOf_16 : decode cX6_highOf 16 = .ok (.imul, 1) := by decide +kernel
theorem dX6_highOf_17 : decode cX6_highOf 17 = .ok (.iconst 3, 1) := by decide +kernel
theorem dX6_highOf_18 : decode cX6_highOf 18 = .ok (.iadd, 1) := by decide +kernel
theorem dX6_highOf_19 : decode cX6_highOf 19 = .ok (.iaload, 1) := by decide +kernel
theorem dX6_highOf_20 : decode cX6_highOf 20 = .ok (.iload_n 2, 1) := by decide +kernel
theorem dX6_highOf_21 : decode cX6_highOf 21 = .ok (.imul, 1) := by decide +kernel
theorem dX6_highOf_22 : decode cX6_highOf 22 = .ok (.iadd, 1) := by decide +kernel
theorem dX6_highOf_23 : decode cX6_highOf 23 = .ok (.ireturn, 1) := by decide +kernel
theorem dX6_day_0 : decode cX6_day 0 = .ok (.aload_n 0, 1) := by decide +kernel
theorem dX6_day_1 : decode cX6_day 1 = .ok (.iconst 0, 1) := by decide +kernel
theorem dX6_day_2 : decode cX6_day 2 = .ok (.putfield 90, 3) := by decide +kernel
theorem dX6_day_5 : decode cX6_day 5 = .ok (.iload_n 1, 1) := by decide +kernel
theorem dX6_day_6 : decode cX6_day 6 = .ok (.i2l, 1) := by decide +kernel
theorem dX6_day_7 : decode cX6_day 7 = .ok (.lconst 0, 1) := by decide +kernel
theorem dX6_day_8 : decode cX6_day 8 = .ok (.ldc2_w 113, 3) := by decide +kernel
theorem dX6_day_11 : decode cX6_day 11 = .ok (.invokestatic 96, 3) := by decide +kernel
theorem dX6_day_14 : decode cX6_day 14 = .ok (.ifCond .ne 6, 3) := by decide +kernel
theorem dX6_day_17 : decode cX6_day 17 = .ok (.ldc 106, 2) := by decide +kernel
theorem dX6_day_19 : decode cX6_day 19 = .ok (.ireturn, 1) := by decide +kernel
theorem dX6_day_20 : decode cX6_day 20 = .ok (.aload_n 0, 1) := by decide +kernel
theorem dX6_day_21 : decode cX6_day 21 = .ok (.getfield 115, 3) := by decide +kernel
theorem dX6_day_24 : decode cX6_day 24 = .ok (.sipush 20000, 3) := by decide +kernel
theorem dX6_day_27 : decode cX6_day 27 = .ok (.if_icmp .ne 6, 3) := by decide +kernel
theorem dX6_day_30 : decode cX6_day 30 = .ok (.ldc 112, 2) := by decide +kernel
theorem dX6_day_32 : decode cX6_day 32 = .ok (.ireturn, 1) := by decide +kernel
theorem dX6_day_33 : decode cX6_day 33 = .ok (.aload_n 0, 1) := by decide +kernel
theorem dX6_day_34 : decode cX6_day 34 = .ok (.dup, 1) := by decide +kernel
theorem dX6_day_35 : decode cX6_day 35 = .ok (.getfield 115, 3) := by decide +kernel
theorem dX6_day_38 : decode cX6_day 38 = .ok (.iconst 1, 1) := by decide +kernel
theorem dX6_day_39 : decode cX6_day 39 = .ok (.iadd, 1) := by decide +kernel
theorem dX6_day_40 : decode cX6_day 40 = .ok (.putfield 115, 3) := by decide +kernel
theorem dX6_day_43 : decode cX6_day 43 = .ok (.iconst 0, 1) := by decide +kernel
theorem dX6_day_44 : decode cX6_day 44 = .ok (.istore_n 2, 1) := by decide +kernel
theorem dX6_day_45 : decode cX6_day 45 = .ok (.iconst 0, 1) := by decide +kernel
theorem dX6_day_46 : decode cX6_day 46 = .ok (.istore_n 3, 1) := by decide +kernel
theorem dX6_day_47 : decode cX6_day 47 = .ok (.iload_n 3, 1) := by decide +kernel
theorem dX6_day_48 : decode cX6_day 48 = .ok (.aload_n 0, 1) := by decide +kernel
theorem dX6_day_49 : decode cX6_day 49 = .ok (.getfield 93, 3) := by decide +kernel
theorem dX6_day_52 : decode cX6_day 52 = .ok (.if_icmp .ge 110, 3) := by decide +kernel
theorem dX6_day_55 : decode cX6_day 55 = .ok (.aload_n 0, 1) := by decide +kernel
theorem dX6_day_56 : decode cX6_day 56 = .ok (.getfield 22, 3) := by decide +kernel
theorem dX6_day_59 : decode cX6_day 59 = .ok (.iload_n 3, 1) := by decide +kernel
theorem dX6_day_60 : decode cX6_day 60 = .ok (.iaload, 1) := by decide +kernel
theorem dX6_day_61 : decode cX6_day 61 = .ok (.aload_n 0, 1) := by decide +kernel
theorem dX6_day_62 : decode cX6_day 62 = .ok (.iload_n 3, 1) := by decide +kernel
theorem dX6_day_63 : decode cX6_day 63 = .ok (.iload_n 1, 1) := by decide +kernel
theorem dX6_day_64 : decode cX6_day 64 = .ok (.invokevirtual 118, 3) := by decide +kernel
theorem dX6_day_67 : decode cX6_day 67 = .ok (.isub, 1) := by decide +kernel
theorem dX6_day_68 : decode cX6_day 68 = .ok (.istore 4, 2) := by decide +kernel
theorem dX6_day_70 : decode cX6_day 70 = .ok (.aload_n 0, 1) := by decide +kernel
theorem dX6_day_71 : decode cX6_day 71 = .ok (.getfield 25, 3) := by decide +kernel
theorem dX6_day_74 : decode cX6_day 74 = .ok (.iload_n 3, 1) := by decide +kernel
theorem dX6_day_75 : decode cX6_day 75 = .ok (.iaload, 1) := by decide +kernel
theorem dX6_day_76 : decode cX6_day 76 = .ok (.aload_n 0, 1) := by decide +kernel
theorem dX6_day_77 : decode cX6_day 77 = .ok (.iload_n 3, 1) := by decide +kernel
theorem dX6_day_78 : decode cX6_day 78 = .ok (.iload_n 1, 1) := by decide +kernel
theorem dX6_day_79 : decode cX6_day 79 = .ok (.invokevirtual 122, 3) := by decide +kernel
theorem dX6_day_82 : decode cX6_day 82 = .ok (.isub, 1) := by decide +kernel
theorem dX6_day_83 : decode cX6_day 83 = .ok (.istore 5, 2) := by decide +kernel
theorem dX6_day_85 : decode cX6_day 85 = .ok (.aload_n 0, 1) := by decide +kernel
theorem dX6_day_86 : decode cX6_day 86 = .ok (.getfield 22, 3) := by decide +kernel
theorem dX6_day_89 : decode cX6_day 89 = .ok (.iload_n 3, 1) := by decide +kernel
theorem dX6_day_90 : decode cX6_day 90 = .ok (.iload 4, 2) := by decide +kernel
theorem dX6_day_92 : decode cX6_day 92 = .ok (.ifCond .ge 7, 3) := by decide +kernel
theorem dX6_day_95 : decode cX6_day 95 = .ok (.iconst 0, 1) := by decide +kernel
theorem dX6_day_96 : decode cX6_day 96 = .ok (.goto 5, 3) := by decide +kernel
theorem dX6_day_99 : decode cX6_day 99 = .ok (.iload 4, 2) := by decide +kernel
theorem dX6_day_101 : decode cX6_day 101 = .ok (.iastore, 1) := by decide +kernel
theorem dX6_day_102 : decode cX6_day 102 = .ok (.aload_n 0, 1) := by decide +kernel
theorem dX6_day_103 : decode cX6_day 103 = .ok (.getfield 25, 3) := by decide +kernel
theorem dX6_day_106 : decode cX6_day 106 = .ok (.iload_n 3, 1) := by decide +kernel
theorem dX6_day_107 : decode cX6_day 107 = .ok (.iload 5, 2) := by decide +kernel
theorem dX6_day_109 : decode cX6_day 109 = .ok (.ifCond .ge 7, 3) := by decide +kernel
theorem dX6_day_112 : decode cX6_day 112 = .ok (.iconst 0, 1) := by decide +kernel
theorem dX6_day_113 : decode cX6_day 113 = .ok (.goto 5, 3) := by decide +kernel
theorem dX6_day_116 : decode cX6_day 116 = .ok (.iload 5, 2) := by decide +kernel
theorem dX6_day_118 : decode cX6_day 118 = .ok (.iastore, 1) := by decide +kernel
theorem dX6_day_119 : decode cX6_day 119 = .ok (.aload_n 0, 1) := by decide +kernel
theorem dX6_day_120 : decode cX6_day 120 = .ok (.getfield 38, 3) := by decide +kernel
theorem dX6_day_123 : decode cX6_day 123 = .ok (.iload_n 3, 1) := by decide +kernel
theorem dX6_day_124 : decode cX6_day 124 = .ok (.dup2, 1) := by decide +kernel
theorem dX6_day_125 : decode cX6_day 125 = .ok (.iaload, 1) := by decide +kernel
theorem dX6_day_126 : decode cX6_day 126 = .ok (.iconst 1, 1) := by decide +kernel
theorem dX6_day_127 : decode cX6_day 127 = .ok (.iadd, 1) := by decide +kernel
theorem dX6_day_128 : decode cX6_day 128 = .ok (.iastore, 1) := by decide +kernel
theorem dX6_day_129 : decode cX6_day 129 = .ok (.aload_n 0, 1) := by decide +kernel
theorem dX6_day_130 : decode cX6_day 130 = .ok (.getfield 41, 3) := by decide +kernel
theorem dX6_day_133 : decode cX6_day 133 = .ok (.iload_n 3, 1) := by decide +kernel
theorem dX6_day_134 : decode cX6_day 134 = .ok (.dup2, 1) := by decide +kernel
theorem dX6_day_135 : decode cX6_day 135 = .ok (.iaload, 1) := by decide +kernel
theorem dX6_day_136 : decode cX6_day 136 = .ok (.iload_n 1, 1) := by decide +kernel
theorem dX6_day_137 : decode cX6_day 137 = .ok (.iadd, 1) := by decide +kernel
theorem dX6_day_138 : decode cX6_day 138 = .ok (.iastore, 1) := by decide +kernel
theorem dX6_day_139 : decode cX6_day 139 = .ok (.iload_n 2, 1) := by decide +kernel
theorem dX6_day_140 : decode cX6_day 140 = .ok (.aload_n 0, 1) := by decide +kernel
theorem dX6_day_141 : decode cX6_day 141 = .ok (.getfield 25, 3) := by decide +kernel
theorem dX6_day_144 : decode cX6_day 144 = .ok (.iload_n 3, 1) := by decide +kernel
theorem dX6_day_145 : decode cX6_day 145 = .ok (.iaload, 1) := by decide +kernel
theorem dX6_day_146 : decode cX6_day 146 = .ok (.ifCond .ne 7, 3) := by decide +kernel
theorem dX6_day_149 : decode cX6_day 149 = .ok (.iconst 1, 1) := by decide +kernel
theorem dX6_day_150 : decode cX6_day 150 = .ok (.goto 4, 3) := by decide +kernel
theorem dX6_day_153 : decode cX6_day 153 = .ok (.iconst 0, 1) := by decide +kernel
theorem dX6_day_154 : decode cX6_day 154 = .ok (.iadd, 1) := by decide +kernel
theorem dX6_day_155 : decode cX6_day 155 = .ok (.istore_n 2, 1) := by decide +kernel
theorem dX6_day_156 : decode cX6_day 156 = .ok (.iinc 3 1, 3) := by decide +kernel
theorem dX6_day_159 : decode cX6_day 159 = .ok (.goto (-112), 3) := by decide +kernel
theorem dX6_day_162 : decode cX6_day 162 = .ok (.iload_n 2, 1) := by decide +kernel
theorem dX6_day_163 : decode cX6_day 163 = .ok (.ireturn, 1) := by decide +kernel
theorem dX6_isDue_0 : decode cX6_isDue 0 = .ok (.aload_n 0, 1) := by decide +kernel
theorem dX6_isDue_1 : decode cX6_isDue 1 = .ok (.getfield 25, 3) := by decide +kernel
theorem dX6_isDue_4 : decode cX6_isDue 4 = .ok (.iload_n 1, 1) := by decide +kernel
theorem dX6_isDue_5 : decode cX6_isDue 5 = .ok (.iaload, 1) := by decide +kernel
theorem dX6_isDue_6 : decode cX6_isDue 6 = .ok (.aload_n 0, 1) := by decide +kernel
theorem dX6_isDue_7 : decode cX6_isDue 7 = .ok (.getfield 53, 3) := by decide +kernel
theorem dX6_isDue_10 : decode cX6_isDue 10 = .ok (.aload_n 0, 1) := by decide +kernel
theorem dX6_isDue_11 : decode cX6_isDue 11 = .ok (.iload_n 1, 1) := by decide +kernel
theorem dX6_isDue_12 : decode cX6_isDue 12 = .ok (.aload_n 0, 1) := by decide +kernel
theorem dX6_isDue_13 : decode cX6_isDue 13 = .ok (.getfield 57, 3) := by decide +kernel
theorem dX6_isDue_16 : decode cX6_isDue 16 = .ok (.invokevirtual 122, 3) := by decide +kernel
theorem dX6_isDue_19 : decode cX6_isDue 19 = .ok (.imul, 1) := by decide +kernel
theorem dX6_isDue_20 : decode cX6_isDue 20 = .ok (.if_icmp .gt 7, 3) := by decide +kernel
theorem dX6_isDue_23 : decode cX6_isDue 23 = .ok (.iconst 1, 1) := by decide +kernel
theorem dX6_isDue_24 : decode cX6_isDue 24 = .ok (.goto 4, 3) := by decide +kernel
theorem dX6_isDue_27 : decode cX6_isDue 27 = .ok (.iconst 0, 1) := by decide +kernel
theorem dX6_isDue_28 : decode cX6_isDue 28 = .ok (.ireturn, 1) := by decide +kernel
theorem dX6_due_0 : decode cX6_due 0 = .ok (.iconst 0, 1) := by decide +kernel
theorem dX6_due_1 : decode cX6_due 1 = .ok (.istore_n 1, 1) := by decide +kernel
theorem dX6_due_2 : decode cX6_due 2 = .ok (.iconst 0, 1) := by decide +kernel
theorem dX6_due_3 : decode cX6_due 3 = .ok (.istore_n 2, 1) := by decide +kernel
theorem dX6_due_4 : decode cX6_due 4 = .ok (.iload_n 2, 1) := by decide +kernel
theorem dX6_due_5 : decode cX6_due 5 = .ok (.aload_n 0, 1) := by decide +kernel
theorem dX6_due_6 : decode cX6_due 6 = .ok (.getfield 93, 3) := by decide +kernel
theorem dX6_due_9 : decode cX6_due 9 = .ok (.if_icmp .ge 25, 3) := by decide +kernel
theorem dX6_due_12 : decode cX6_due 12 = .ok (.iload_n 1, 1) := by decide +kernel
theorem dX6_due_13 : decode cX6_due 13 = .ok (.aload_n 0, 1) := by decide +kernel
theorem dX6_due_14 : decode cX6_due 14 = .ok (.iload_n 2, 1) := by decide +kernel
theorem dX6_due_15 : decode cX6_due 15 = .ok (.invokevirtual 125, 3) := by decide +kernel
theorem dX6_due_18 : decode cX6_due 18 = .ok (.ifCond .eq 7, 3) := by decide +kernel
theorem dX6_due_21 : decode cX6_due 21 = .ok (.iconst 1, 1) := by decide +kernel
theorem dX6_due_22 : decode cX6_due 22 = .ok (.goto 4, 3) := by decide +kernel
theorem dX6_due_25 : decode cX6_due 25 = .ok (.iconst 0, 1) := by decide +kernel
theorem dX6_due_26 : decode cX6_due 26 = .ok (.iadd, 1) := by decide +kernel
theorem dX6_due_27 : decode cX6_due 27 = .ok (.istore_n 1, 1) := by decide +kernel
theorem dX6_due_28 : decode cX6_due 28 = .ok (.iinc 2 1, 3) := by decide +kernel
theorem dX6_due_31 : decode cX6_due 31 = .ok (.goto (-27), 3) := by decide +kernel
theorem dX6_due_34 : decode cX6_due 34 = .ok (.iload_n 1, 1) := by decide +kernel
theorem dX6_due_35 : decode cX6_due 35 = .ok (.ireturn, 1) := by decide +kernel
theorem dX6_look_0 : decode cX6_look 0 = .ok (.aload_n 0, 1) := by decide +kernel
theorem dX6_look_1 : decode cX6_look 1 = .ok (.iconst 0, 1) := by decide +kernel
theorem dX6_look_2 : decode cX6_look 2 = .ok (.putfield 90, 3) := by decide +kernel
theorem dX6_look_5 : decode cX6_look 5 = .ok (.iload_n 1, 1) := by decide +kernel
theorem dX6_look_6 : decode cX6_look 6 = .ok (.i2l, 1) := by decide +kernel
theorem dX6_look_7 : decode cX6_look 7 = .ok (.lconst 0, 1) := by decide +kernel
theorem dX6_look_8 : decode cX6_look 8 = .ok (.ldc2_w 128, 3) := by decide +kernel
theorem dX6_look_11 : decode cX6_look 11 = .ok (.invokestatic 96, 3) := by decide +kernel
theorem dX6_look_14 : decode cX6_look 14 = .ok (.ifCond .eq 15, 3) := by decide +kernel
theorem dX6_look_17 : decode cX6_look 17 = .ok (.iload_n 2, 1) := by decide +kernel
theorem dX6_look_18 : decode cX6_look 18 = .ok (.i2l, 1) := by decide +kernel
theorem dX6_look_19 : decode cX6_look 19 = .ok (.lconst 0, 1) := by decide +kernel
theorem dX6_look_20 : decode cX6_look 20 = .ok (.ldc2_w 113, 3) := by decide +kernel
theorem dX6_look_23 : decode cX6_look 23 = .ok (.invokestatic 96, 3) := by decide +kernel
theorem dX6_look_26 : decode cX6_look 26 = .ok (.ifCond .ne 6, 3) := by decide +kernel
theorem dX6_look_29 : decode cX6_look 29 = .ok (.ldc 106, 2) := by decide +kernel
theorem dX6_look_31 : decode cX6_look 31 = .ok (.ireturn, 1) := by decide +kernel
theorem dX6_look_32 : decode cX6_look 32 = .ok (.aload_n 0, 1) := by decide +kernel
theorem dX6_look_33 : decode cX6_look 33 = .ok (.iload_n 1, 1) := by decide +kernel
theorem dX6_look_34 : decode cX6_look 34 = .ok (.putfield 53, 3) := by decide +kernel
theorem dX6_look_37 : decode cX6_look 37 = .ok (.aload_n 0, 1) := by decide +kernel
theorem dX6_look_38 : decode cX6_look 38 = .ok (.iload_n 2, 1) := by decide +kernel
theorem dX6_look_39 : decode cX6_look 39 = .ok (.putfield 57, 3) := by decide +kernel
theorem dX6_look_42 : decode cX6_look 42 = .ok (.aload_n 0, 1) := by decide +kernel
theorem dX6_look_43 : decode cX6_look 43 = .ok (.invokevirtual 130, 3) := by decide +kernel
theorem dX6_look_46 : decode cX6_look 46 = .ok (.ireturn, 1) := by decide +kernel
theorem dX6_told_0 : decode cX6_told 0 = .ok (.aload_n 0, 1) := by decide +kernel
theorem dX6_told_1 : decode cX6_told 1 = .ok (.iconst 0, 1) := by decide +kernel
theorem dX6_told_2 : decode cX6_told 2 = .ok (.putfield 90, 3) := by decide +kernel
theorem dX6_told_5 : decode cX6_told 5 = .ok (.aload_n 0, 1) := by decide +kernel
theorem dX6_told_6 : decode cX6_told 6 = .ok (.iload_n 1, 1) := by decide +kernel
theorem dX6_told_7 : decode cX6_told 7 = .ok (.invokevirtual 108, 3) := by decide +kernel
theorem dX6_told_10 : decode cX6_told 10 = .ok (.ifCond .eq 15, 3) := by decide +kernel
theorem dX6_told_13 : decode cX6_told 13 = .ok (.iload_n 2, 1) := by decide +kernel
theorem dX6_told_14 : decode cX6_told 14 = .ok (.i2l, 1) := by decide +kernel
theorem dX6_told_15 : decode cX6_told 15 = .ok (.lconst 0, 1) := by decide +kernel
theorem dX6_told_16 : decode cX6_told 16 = .ok (.ldc2_w 128, 3) := by decide +kernel
theorem dX6_told_19 : decode cX6_told 19 = .ok (.invokestatic 96, 3) := by decide +kernel
theorem dX6_told_22 : decode cX6_told 22 = .ok (.ifCond .ne 6, 3) := by decide +kernel
theorem dX6_told_25 : decode cX6_told 25 = .ok (.ldc 106, 2) := by decide +kernel
theorem dX6_told_27 : decode cX6_told 27 = .ok (.ireturn, 1) := by decide +kernel
theorem dX6_told_28 : decode cX6_told 28 = .ok (.iload_n 2, 1) := by decide +kernel
theorem dX6_told_29 : decode cX6_told 29 = .ok (.iconst 4, 1) := by decide +kernel
theorem dX6_told_30 : decode cX6_told 30 = .ok (.if_icmp .ge 14, 3) := by decide +kernel
theorem dX6_told_33 : decode cX6_told 33 = .ok (.aload_n 0, 1) := by decide +kernel
theorem dX6_told_34 : decode cX6_told 34 = .ok (.getfield 19, 3) := by decide +kernel
theorem dX6_told_37 : decode cX6_told 37 = .ok (.iconst 4, 1) := by decide +kernel
theorem dX6_told_38 : decode cX6_told 38 = .ok (.iload_n 1, 1) := by decide +kernel
theorem dX6_told_39 : decode cX6_told 39 = .ok (.imul, 1) := by decide +kernel
theorem dX6_told_40 : decode cX6_told 40 = .ok (.iload_n 2, 1) := by decide +kernel
theorem dX6_told_41 : decode cX6_told 41 = .ok (.iadd, 1) := by decide +kernel
theorem dX6_told_42 : decode cX6_told 42 = .ok (.iaload, 1) := by decide +kernel
theorem dX6_told_43 : decode cX6_told 43 = .ok (.ireturn, 1) := by decide +kernel
theorem dX6_told_44 : decode cX6_told 44 = .ok (.iload_n 2, 1) := by decide +kernel
theorem dX6_told_45 : decode cX6_told 45 = .ok (.iconst 4, 1) := by decide +kernel
theorem dX6_told_46 : decode cX6_told 46 = .ok (.if_icmp .ne 12, 3) := by decide +kernel
theorem dX6_told_49 : decode cX6_told 49 = .ok (.aload_n 0, 1) := by decide +kernel
theorem dX6_told_50 : decode cX6_told 50 = .ok (.getfield 22, 3) := by decide +kernel
theorem dX6_told_53 : decode cX6_told 53 = .ok (.iload_n 1, 1) := by decide +kernel
theorem dX6_told_54 : decode cX6_told 54 = .ok (.iaload, 1) := by decide +kernel
theorem dX6_told_55 : decode cX6_told 55 = .ok (.goto 90, 3) := by decide +kernel
theorem dX6_told_58 : decode cX6_told 58 = .ok (.iload_n 2, 1) := by decide +kernel
theorem dX6_told_59 : decode cX6_told 59 = .ok (.iconst 5, 1) := by decide +kernel
theorem dX6_told_60 : decode cX6_told 60 = .ok (.if_icmp .ne 12, 3) := by decide +kernel
theorem dX6_told_63 : decode cX6_told 63 = .ok (.aload_n 0, 1) := by decide +kernel
theorem dX6_told_64 : decode cX6_told 64 = .ok (.getfield 25, 3) := by decide +kernel
theorem dX6_told_67 : decode cX6_told 67 = .ok (.iload_n 1, 1) := by decide +kernel
theorem dX6_told_68 : decode cX6_told 68 = .ok (.iaload, 1) := by decide +kernel
theorem dX6_told_69 : decode cX6_told 69 = .ok (.goto 76, 3) := by decide +kernel
theorem dX6_told_72 : decode cX6_told 72 = .ok (.iload_n 2, 1) := by decide +kernel
theorem dX6_told_73 : decode cX6_told 73 = .ok (.bipush 6, 2) := by decide +kernel
theorem dX6_told_75 : decode cX6_told 75 = .ok (.if_icmp .ne 19, 3) := by decide +kernel
theorem dX6_told_78 : decode cX6_told 78 = .ok (.aload_n 0, 1) := by decide +kernel
theorem dX6_told_79 : decode cX6_told 79 = .ok (.iload_n 1, 1) := by decide +kernel
theorem dX6_told_80 : decode cX6_told 80 = .ok (.invokevirtual 125, 3) := by decide +kernel
theorem dX6_told_83 : decode cX6_told 83 = .ok (.ifCond .eq 7, 3) := by decide +kernel
theorem dX6_told_86 : decode cX6_told 86 = .ok (.iconst 1, 1) := by decide +kernel
theorem dX6_told_87 : decode cX6_told 87 = .ok (.goto 58, 3) := by decide +kernel
theorem dX6_told_90 : decode cX6_told 90 = .ok (.iconst 0, 1) := by decide +kernel
theorem dX6_told_91 : decode cX6_told 91 = .ok (.goto 54, 3) := by decide +kernel
theorem dX6_told_94 : decode cX6_told 94 = .ok (.iload_n 2, 1) := by decide +kernel
theorem dX6_told_95 : decode cX6_told 95 = .ok (.bipush 7, 2) := by decide +kernel
theorem dX6_told_97 : decode cX6_told 97 = .ok (.if_icmp .ne 12, 3) := by decide +kernel
theorem dX6_told_100 : decode cX6_told 100 = .ok (.aload_n 0, 1) := by decide +kernel
theorem dX6_told_101 : decode cX6_told 101 = .ok (.getfield 28, 3) := by decide +kernel
theorem dX6_told_104 : decode cX6_told 104 = .ok (.iload_n 1, 1) := by decide +kernel
theorem dX6_told_105 : decode cX6_told 105 = .ok (.iaload, 1) := by decide +kernel
theorem dX6_told_106 : decode cX6_told 106 = .ok (.goto 39, 3) := by decide +kernel
theorem dX6_told_109 : decode cX6_told 109 = .ok (.iload_n 2, 1) := by decide +kernel
theorem dX6_told_110 : decode cX6_told 110 = .ok (.bipush 8, 2) := by decide +kernel
theorem dX6_told_112 : decode cX6_told 112 = .ok (.if_icmp .ne 12, 3) := by decide +kernel
theorem dX6_told_115 : decode cX6_told 115 = .ok (.aload_n 0, 1) := by decide +kernel
theorem dX6_told_116 : decode cX6_told 116 = .ok (.getfield 31, 3) := by decide +kernel
theorem dX6_told_119 : decode cX6_told 119 = .ok (.iload_n 1, 1) := by decide +kernel
theorem dX6_told_120 : decode cX6_told 120 = .ok (.iaload, 1) := by decide +kernel
theorem dX6_told_121 : decode cX6_told 121 = .ok (.goto 24, 3) := by decide +kernel
theorem dX6_told_124 : decode cX6_told 124 = .ok (.iload_n 2, 1) := by decide +kernel
theorem dX6_told_125 : decode cX6_told 125 = .ok (.bipush 9, 2) := by decide +kernel
theorem dX6_told_127 : decode cX6_told 127 = .ok (.if_icmp .ne 12, 3) := by decide +kernel
theorem dX6_told_130 : decode cX6_told 130 = .ok (.aload_n 0, 1) := by decide +kernel
theorem dX6_told_131 : decode cX6_told 131 = .ok (.getfield 38, 3) := by decide +kernel
theorem dX6_told_134 : decode cX6_told 134 = .ok (.iload_n 1, 1) := by decide +kernel
theorem dX6_told_135 : decode cX6_told 135 = .ok (.iaload, 1) := by decide +kernel
theorem dX6_told_136 : decode cX6_told 136 = .ok (.goto 9, 3) := by decide +kernel
theorem dX6_told_139 : decode cX6_told 139 = .ok (.aload_n 0, 1) := by decide +kernel
theorem dX6_told_140 : decode cX6_told 140 = .ok (.getfield 41, 3) := by decide +kernel
theorem dX6_told_143 : decode cX6_told 143 = .ok (.iload_n 1, 1) := by decide +kernel
theorem dX6_told_144 : decode cX6_told 144 = .ok (.iaload, 1) := by decide +kernel
theorem dX6_told_145 : decode cX6_told 145 = .ok (.ireturn, 1) := by decide +kernel
theorem dX6_lasts_0 : decode cX6_lasts 0 = .ok (.aload_n 0, 1) := by decide +kernel
theorem dX6_lasts_1 : decode cX6_lasts 1 = .ok (.iconst 0, 1) := by decide +kernel
theorem dX6_lasts_2 : decode cX6_lasts 2 = .ok (.putfield 90, 3) := by decide +kernel
theorem dX6_lasts_5 : decode cX6_lasts 5 = .ok (.aload_n 0, 1) := by decide +kernel
theorem dX6_lasts_6 : decode cX6_lasts 6 = .ok (.iload_n 1, 1) := by decide +kernel
theorem dX6_lasts_7 : decode cX6_lasts 7 = .ok (.invokevirtual 108, 3) := by decide +kernel
theorem dX6_lasts_10 : decode cX6_lasts 10 = .ok (.ifCond .eq 15, 3) := by decide +kernel
theorem dX6_lasts_13 : decode cX6_lasts 13 = .ok (.iload_n 2, 1) := by decide +kernel
theorem dX6_lasts_14 : decode cX6_lasts 14 = .ok (.i2l, 1) := by decide +kernel
theorem dX6_lasts_15 : decode cX6_lasts 15 = .ok (.lconst 0, 1) := by decide +kernel
theorem dX6_lasts_16 : decode cX6_lasts 16 = .ok (.ldc2_w 113, 3) := by decide +kernel
theorem dX6_lasts_19 : decode cX6_lasts 19 = .ok (.invokestatic 96, 3) := by decide +kernel
theorem dX6_lasts_22 : decode cX6_lasts 22 = .ok (.ifCond .ne 6, 3) := by decide +kernel
theorem dX6_lasts_25 : decode cX6_lasts 25 = .ok (.ldc 106, 2) := by decide +kernel
theorem dX6_lasts_27 : decode cX6_lasts 27 = .ok (.ireturn, 1) := by decide +kernel
theorem dX6_lasts_28 : decode cX6_lasts 28 = .ok (.aload_n 0, 1) := by decide +kernel
theorem dX6_lasts_29 : decode cX6_lasts 29 = .ok (.getfield 25, 3) := by decide +kernel
theorem dX6_lasts_32 : decode cX6_lasts 32 = .ok (.iload_n 1, 1) := by decide +kernel
theorem dX6_lasts_33 : decode cX6_lasts 33 = .ok (.iaload, 1) := by decide +kernel
theorem dX6_lasts_34 : decode cX6_lasts 34 = .ok (.aload_n 0, 1) := by decide +kernel
theorem dX6_lasts_35 : decode cX6_lasts 35 = .ok (.iload_n 1, 1) := by decide +kernel
theorem dX6_lasts_36 : decode cX6_lasts 36 = .ok (.iload_n 2, 1) := by decide +kernel
theorem dX6_lasts_37 : decode cX6_lasts 37 = .ok (.invokevirtual 122, 3) := by decide +kernel
theorem dX6_lasts_40 : decode cX6_lasts 40 = .ok (.isub, 1) := by decide +kernel
theorem dX6_lasts_41 : decode cX6_lasts 41 = .ok (.istore_n 3, 1) := by decide +kernel
theorem dX6_lasts_42 : decode cX6_lasts 42 = .ok (.iconst 0, 1) := by decide +kernel
theorem dX6_lasts_43 : decode cX6_lasts 43 = .ok (.istore 4, 2) := by decide +kernel
theorem dX6_lasts_45 : decode cX6_lasts 45 = .ok (.iload_n 3, 1) := by decide +kernel
theorem dX6_lasts_46 : decode cX6_lasts 46 = .ok (.ifCond .le 26, 3) := by decide +kernel
theorem dX6_lasts_49 : decode cX6_lasts 49 = .ok (.iload 4, 2) := by decide +kernel
theorem dX6_lasts_51 : decode cX6_lasts 51 = .ok (.sipush 500, 3) := by decide +kernel
theorem dX6_lasts_54 : decode cX6_lasts 54 = .ok (.if_icmp .ge 18, 3) := by decide +kernel
theorem dX6_lasts_57 : decode cX6_lasts 57 = .ok (.iinc 4 1, 3) := by decide +kernel
theorem dX6_lasts_60 : decode cX6_lasts 60 = .ok (.iload_n 3, 1) := by decide +kernel
theorem dX6_lasts_61 : decode cX6_lasts 61 = .ok (.aload_n 0, 1) := by decide +kernel
theorem dX6_lasts_62 : decode cX6_lasts 62 = .ok (.iload_n 1, 1) := by decide +kernel
theorem dX6_lasts_63 : decode cX6_lasts 63 = .ok (.iload_n 2, 1) := by decide +kernel
theorem dX6_lasts_64 : decode cX6_lasts 64 = .ok (.invokevirtual 122, 3) := by decide +kernel
theorem dX6_lasts_67 : decode cX6_lasts 67 = .ok (.isub, 1) := by decide +kernel
theorem dX6_lasts_68 : decode cX6_lasts 68 = .ok (.istore_n 3, 1) := by decide +kernel
theorem dX6_lasts_69 : decode cX6_lasts 69 = .ok (.goto (-24), 3) := by decide +kernel
theorem dX6_lasts_72 : decode cX6_lasts 72 = .ok (.iload 4, 2) := by decide +kernel
theorem dX6_lasts_74 : decode cX6_lasts 74 = .ok (.ireturn, 1) := by decide +kernel
theorem dX6_stock_0 : decode cX6_stock 0 = .ok (.aload_n 0, 1) := by decide +kernel
theorem dX6_stock_1 : decode cX6_stock 1 = .ok (.iconst 0, 1) := by decide +kernel
theorem dX6_stock_2 : decode cX6_stock 2 = .ok (.putfield 90, 3) := by decide +kernel
theorem dX6_stock_5 : decode cX6_stock 5 = .ok (.iload_n 1, 1) := by decide +kernel
theorem dX6_stock_6 : decode cX6_stock 6 = .ok (.ifCond .lt 18, 3) := by decide +kernel
theorem dX6_stock_9 : decode cX6_stock 9 = .ok (.aload_n 0, 1) := by decide +kernel
theorem dX6_stock_10 : decode cX6_stock 10 = .ok (.getfield 134, 3) := by decide +kernel
theorem dX6_stock_13 : decode cX6_stock 13 = .ok (.i2l, 1) := by decide +kernel
theorem dX6_stock_14 : decode cX6_stock 14 = .ok (.iload_n 1, 1) := by decide +kernel
theorem dX6_stock_15 : decode cX6_stock 15 = .ok (.i2l, 1) := by decide +kernel
theorem dX6_stock_16 : decode cX6_stock 16 = .ok (.ladd, 1) := by decide +kernel
theorem dX6_stock_17 : decode cX6_stock 17 = .ok (.ldc2_w 137, 3) := by decide +kernel
theorem dX6_stock_20 : decode cX6_stock 20 = .ok (.lcmp, 1) := by decide +kernel
theorem dX6_stock_21 : decode cX6_stock 21 = .ok (.ifCond .le 6, 3) := by decide +kernel
theorem dX6_stock_24 : decode cX6_stock 24 = .ok (.ldc 106, 2) := by decide +kernel
theorem dX6_stock_26 : decode cX6_stock 26 = .ok (.ireturn, 1) := by decide +kernel
theorem dX6_stock_27 : decode cX6_stock 27 = .ok (.aload_n 0, 1) := by decide +kernel
theorem dX6_stock_28 : decode cX6_stock 28 = .ok (.dup, 1) := by decide +kernel
theorem dX6_stock_29 : decode cX6_stock 29 = .ok (.getfield 134, 3) := by decide +kernel
theorem dX6_stock_32 : decode cX6_stock 32 = .ok (.iload_n 1, 1) := by decide +kernel
theorem dX6_stock_33 : decode cX6_stock 33 = .ok (.iadd, 1) := by decide +kernel
theorem dX6_stock_34 : decode cX6_stock 34 = .ok (.putfield 134, 3) := by decide +kernel
theorem dX6_stock_37 : decode cX6_stock 37 = .ok (.aload_n 0, 1) := by decide +kernel
theorem dX6_stock_38 : decode cX6_stock 38 = .ok (.dup, 1) := by decide +kernel
theorem dX6_stock_39 : decode cX6_stock 39 = .ok (.getfield 139, 3) := by decide +kernel
theorem dX6_stock_42 : decode cX6_stock 42 = .ok (.iload_n 1, 1) := by decide +kernel
theorem dX6_stock_43 : decode cX6_stock 43 = .ok (.i2l, 1) := by decide +kernel
theorem dX6_stock_44 : decode cX6_stock 44 = .ok (.ladd, 1) := by decide +kernel
theorem dX6_stock_45 : decode cX6_stock 45 = .ok (.putfield 139, 3) := by decide +kernel
theorem dX6_stock_48 : decode cX6_stock 48 = .ok (.aload_n 0, 1) := by decide +kernel
theorem dX6_stock_49 : decode cX6_stock 49 = .ok (.getfield 134, 3) := by decide +kernel
theorem dX6_stock_52 : decode cX6_stock 52 = .ok (.ireturn, 1) := by decide +kernel
theorem dX6_lorry_0 : decode cX6_lorry 0 = .ok (.aload_n 0, 1) := by decide +kernel
theorem dX6_lorry_1 : decode cX6_lorry 1 = .ok (.iconst 0, 1) := by decide +kernel
theorem dX6_lorry_2 : decode cX6_lorry 2 = .ok (.putfield 90, 3) := by decide +kernel
theorem dX6_lorry_5 : decode cX6_lorry 5 = .ok (.iload_n 1, 1) := by decide +kernel
theorem dX6_lorry_6 : decode cX6_lorry 6 = .ok (.i2l, 1) := by decide +kernel
theorem dX6_lorry_7 : decode cX6_lorry 7 = .ok (.ldc2_w 102, 3) := by decide +kernel
theorem dX6_lorry_10 : decode cX6_lorry 10 = .ok (.ldc2_w 143, 3) := by decide +kernel
theorem dX6_lorry_13 : decode cX6_lorry 13 = .ok (.invokestatic 96, 3) := by decide +kernel
theorem dX6_lorry_16 : decode cX6_lorry 16 = .ok (.ifCond .ne 6, 3) := by decide +kernel
theorem dX6_lorry_19 : decode cX6_lorry 19 = .ok (.ldc 106, 2) := by decide +kernel
theorem dX6_lorry_21 : decode cX6_lorry 21 = .ok (.ireturn, 1) := by decide +kernel
theorem dX6_lorry_22 : decode cX6_lorry 22 = .ok (.aload_n 0, 1) := by decide +kernel
theorem dX6_lorry_23 : decode cX6_lorry 23 = .ok (.getfield 60, 3) := by decide +kernel
theorem dX6_lorry_26 : decode cX6_lorry 26 = .ok (.istore_n 2, 1) := by decide +kernel
theorem dX6_lorry_27 : decode cX6_lorry 27 = .ok (.aload_n 0, 1) := by decide +kernel
theorem dX6_lorry_28 : decode cX6_lorry 28 = .ok (.iload_n 1, 1) := by decide +kernel
theorem dX6_lorry_29 : decode cX6_lorry 29 = .ok (.putfield 60, 3) := by decide +kernel
theorem dX6_lorry_32 : decode cX6_lorry 32 = .ok (.iload_n 2, 1) := by decide +kernel
theorem dX6_lorry_33 : decode cX6_lorry 33 = .ok (.ireturn, 1) := by decide +kernel
theorem dX6_canGo_0 : decode cX6_canGo 0 = .ok (.aload_n 0, 1) := by decide +kernel
theorem dX6_canGo_1 : decode cX6_canGo 1 = .ok (.iload_n 1, 1) := by decide +kernel
theorem dX6_canGo_2 : decode cX6_canGo 2 = .ok (.aload_n 0, 1) := by decide +kernel
theorem dX6_canGo_3 : decode cX6_canGo 3 = .ok (.getfield 57, 3) := by decide +kernel
theorem dX6_canGo_6 : decode cX6_canGo 6 = .ok (.invokevirtual 122, 3) := by decide +kernel
theorem dX6_canGo_9 : decode cX6_canGo 9 = .ok (.istore_n 2, 1) := by decide +kernel
theorem dX6_canGo_10 : decode cX6_canGo 10 = .ok (.iload_n 2, 1) := by decide +kernel
theorem dX6_canGo_11 : decode cX6_canGo 11 = .ok (.ifCond .ne 9, 3) := by decide +kernel
theorem dX6_canGo_14 : decode cX6_canGo 14 = .ok (.sipush 1000, 3) := by decide +kernel
theorem dX6_canGo_17 : decode cX6_canGo 17 = .ok (.goto 11, 3) := by decide +kernel
theorem dX6_canGo_20 : decode cX6_canGo 20 = .ok (.aload_n 0, 1) := by decide +kernel
theorem dX6_canGo_21 : decode cX6_canGo 21 = .ok (.getfield 25, 3) := by decide +kernel
theorem dX6_canGo_24 : decode cX6_canGo 24 = .ok (.iload_n 1, 1) := by decide +kernel
theorem dX6_canGo_25 : decode cX6_canGo 25 = .ok (.iaload, 1) := by decide +kernel
theorem dX6_canGo_26 : decode cX6_canGo 26 = .ok (.iload_n 2, 1) := by decide +kernel
theorem dX6_canGo_27 : decode cX6_canGo 27 = .ok (.idiv, 1) := by decide +kernel
theorem dX6_canGo_28 : decode cX6_canGo 28 = .ok (.ireturn, 1) := by decide +kernel
theorem dX6_calls_0 : decode cX6_calls 0 = .ok (.aload_n 0, 1) := by decide +kernel
theorem dX6_calls_1 : decode cX6_calls 1 = .ok (.iconst 0, 1) := by decide +kernel
theorem dX6_calls_2 : decode cX6_calls 2 = .ok (.putfield 90, 3) := by decide +kernel
theorem dX6_calls_5 : decode cX6_calls 5 = .ok (.iconst 0, 1) := by decide +kernel
theorem dX6_calls_6 : decode cX6_calls 6 = .ok (.istore_n 1, 1) := by decide +kernel
theorem dX6_calls_7 : decode cX6_calls 7 = .ok (.iconst 0, 1) := by decide +kernel
theorem dX6_calls_8 : decode cX6_calls 8 = .ok (.istore_n 2, 1) := by decide +kernel
theorem dX6_calls_9 : decode cX6_calls 9 = .ok (.iconst 0, 1) := by decide +kernel
theorem dX6_calls_10 : decode cX6_calls 10 = .ok (.istore_n 3, 1) := by decide +kernel
theorem dX6_calls_11 : decode cX6_calls 11 = .ok (.iconst 0, 1) := by decide +kernel
theorem dX6_calls_12 : decode cX6_calls 12 = .ok (.istore 4, 2) := by decide +kernel
theorem dX6_calls_14 : decode cX6_calls 14 = .ok (.iconst 0, 1) := by decide +kernel
theorem dX6_calls_15 : decode cX6_calls 15 = .ok (.istore 5, 2) := by decide +kernel
theorem dX6_calls_17 : decode cX6_calls 17 = .ok (.iload 5, 2) := by decide +kernel
theorem dX6_calls_19 : decode cX6_calls 19 = .ok (.aload_n 0, 1) := by decide +kernel
theorem dX6_calls_20 : decode cX6_calls 20 = .ok (.getfield 93, 3) := by decide +kernel
theorem dX6_calls_23 : decode cX6_calls 23 = .ok (.if_icmp .ge 141, 3) := by decide +kernel
theorem dX6_calls_26 : decode cX6_calls 26 = .ok (.ldc 145, 2) := by decide +kernel
theorem dX6_calls_28 : decode cX6_calls 28 = .ok (.istore 6, 2) := by decide +kernel
theorem dX6_calls_30 : decode cX6_calls 30 = .ok (.iconst 0, 1) := by decide +kernel
theorem dX6_calls_31 : decode cX6_calls 31 = .ok (.istore 7, 2) := by decide +kernel
theorem dX6_calls_33 : decode cX6_calls 33 = .ok (.iload 7, 2) := by decide +kernel
theorem dX6_calls_35 : decode cX6_calls 35 = .ok (.aload_n 0, 1) := by decide +kernel
theorem dX6_calls_36 : decode cX6_calls 36 = .ok (.getfield 93, 3) := by decide +kernel
theorem dX6_calls_39 : decode cX6_calls 39 = .ok (.if_icmp .ge 53, 3) := by decide +kernel
theorem dX6_calls_42 : decode cX6_calls 42 = .ok (.aload_n 0, 1) := by decide +kernel
theorem dX6_calls_43 : decode cX6_calls 43 = .ok (.iload 7, 2) := by decide +kernel
theorem dX6_calls_45 : decode cX6_calls 45 = .ok (.invokevirtual 125, 3) := by decide +kernel
theorem dX6_calls_48 : decode cX6_calls 48 = .ok (.ifCond .eq 38, 3) := by decide +kernel
theorem dX6_calls_51 : decode cX6_calls 51 = .ok (.iload_n 1, 1) := by decide +kernel
theorem dX6_calls_52 : decode cX6_calls 52 = .ok (.iload 7, 2) := by decide +kernel
theorem dX6_calls_54 : decode cX6_calls 54 = .ok (.ishr, 1) := by decide +kernel
theorem dX6_calls_55 : decode cX6_calls 55 = .ok (.iconst 1, 1) := by decide +kernel
theorem dX6_calls_56 : decode cX6_calls 56 = .ok (.iand, 1) := by decide +kernel
theorem dX6_calls_57 : decode cX6_calls 57 = .ok (.ifCond .ne 29, 3) := by decide +kernel
theorem dX6_calls_60 : decode cX6_calls 60 = .ok (.iload 6, 2) := by decide +kernel
theorem dX6_calls_62 : decode cX6_calls 62 = .ok (.ldc 145, 2) := by decide +kernel
theorem dX6_calls_64 : decode cX6_calls 64 = .ok (.if_icmp .eq 18, 3) := by decide +kernel
theorem dX6_calls_67 : decode cX6_calls 67 = .ok (.aload_n 0, 1) := by decide +kernel
theorem dX6_calls_68 : decode cX6_calls 68 = .ok (.iload 7, 2) := by decide +kernel
theorem dX6_calls_70 : decode cX6_calls 70 = .ok (.invokevirtual 146, 3) := by decide +kernel
theorem dX6_calls_73 : decode cX6_calls 73 = .ok (.aload_n 0, 1) := by decide +kernel
theorem dX6_calls_74 : decode cX6_calls 74 = .ok (.iload 6, 2) := by decide +kernel
theorem dX6_calls_76 : decode cX6_calls 76 = .ok (.invokevirtual 146, 3) := by decide +kernel
theorem dX6_calls_79 : decode cX6_calls 79 = .ok (.if_icmp .ge 7, 3) := by decide +kernel
theorem dX6_calls_82 : decode cX6_calls 82 = .ok (.iload 7, 2) := by decide +kernel
theorem dX6_calls_84 : decode cX6_calls 84 = .ok (.istore 6, 2) := by decide +kernel
theorem dX6_calls_86 : decode cX6_calls 86 = .ok (.iinc 7 1, 3) := by decide +kernel
theorem dX6_calls_89 : decode cX6_calls 89 = .ok (.goto (-56), 3) := by decide +kernel
theorem dX6_calls_92 : decode cX6_calls 92 = .ok (.iload 6, 2) := by decide +kernel
theorem dX6_calls_94 : decode cX6_calls 94 = .ok (.ldc 145, 2) := by decide +kernel
theorem dX6_calls_96 : decode cX6_calls 96 = .ok (.if_icmp .ne 5, 3) := by decide +kernel
theorem dX6_calls_99 : decode cX6_calls 99 = .ok (.iload_n 2, 1) := by decide +kernel
theorem dX6_calls_100 : decode cX6_calls 100 = .ok (.ireturn, 1) := by decide +kernel
theorem dX6_calls_101 : decode cX6_calls 101 = .ok (.iload_n 1, 1) := by decide +kernel
theorem dX6_calls_102 : decode cX6_calls 102 = .ok (.iconst 1, 1) := by decide +kernel
theorem dX6_calls_103 : decode cX6_calls 103 = .ok (.iload 6, 2) := by decide +kernel
theorem dX6_calls_105 : decode cX6_calls 105 = .ok (.ishl, 1) := by decide +kernel
theorem dX6_calls_106 : decode cX6_calls 106 = .ok (.ior, 1) := by decide +kernel
theorem dX6_calls_107 : decode cX6_calls 107 = .ok (.istore_n 1, 1) := by decide +kernel
theorem dX6_calls_108 : decode cX6_calls 108 = .ok (.aload_n 0, 1) := by decide +kernel
theorem dX6_calls_109 : decode cX6_calls 109 = .ok (.getfield 16, 3) := by decide +kernel
theorem dX6_calls_112 : decode cX6_calls 112 = .ok (.iload 6, 2) := by decide +kernel
theorem dX6_calls_114 : decode cX6_calls 114 = .ok (.iaload, 1) := by decide +kernel
theorem dX6_calls_115 : decode cX6_calls 115 = .ok (.aload_n 0, 1) := by decide +kernel
theorem dX6_calls_116 : decode cX6_calls 116 = .ok (.getfield 25, 3) := by decide +kernel
theorem dX6_calls_119 : decode cX6_calls 119 = .ok (.iload 6, 2) := by decide +kernel
theorem dX6_calls_121 : decode cX6_calls 121 = .ok (.iaload, 1) := by decide +kernel
theorem dX6_calls_122 : decode cX6_calls 122 = .ok (.isub, 1) := by decide +kernel
theorem dX6_calls_123 : decode cX6_calls 123 = .ok (.istore 7, 2) := by decide +kernel
theorem dX6_calls_125 : decode cX6_calls 125 = .ok (.iload 4, 2) := by decide +kernel
theorem dX6_calls_127 : decode cX6_calls 127 = .ok (.bipush 8, 2) := by decide +kernel
theorem dX6_calls_129 : decode cX6_calls 129 = .ok (.if_icmp .ge 29, 3) := by decide +kernel
theorem dX6_calls_132 : decode cX6_calls 132 = .ok (.iload_n 3, 1) := by decide +kernel
theorem dX6_calls_133 : decode cX6_calls 133 = .ok (.iload 7, 2) := by decide +kernel
theorem dX6_calls_135 : decode cX6_calls 135 = .ok (.iadd, 1) := by decide +kernel
theorem dX6_calls_136 : decode cX6_calls 136 = .ok (.aload_n 0, 1) := by decide +kernel
theorem dX6_calls_137 : decode cX6_calls 137 = .ok (.getfield 60, 3) := by decide +kernel
theorem dX6_calls_140 : decode cX6_calls 140 = .ok (.if_icmp .gt 18, 3) := by decide +kernel
theorem dX6_calls_143 : decode cX6_calls 143 = .ok (.iload_n 2, 1) := by decide +kernel
theorem dX6_calls_144 : decode cX6_calls 144 = .ok (.iconst 1, 1) := by decide +kernel
theorem dX6_calls_145 : decode cX6_calls 145 = .ok (.iload 6, 2) := by decide +kernel
theorem dX6_calls_147 : decode cX6_calls 147 = .ok (.ishl, 1) := by decide +kernel
theorem dX6_calls_148 : decode cX6_calls 148 = .ok (.ior, 1) := by decide +kernel
theorem dX6_calls_149 : decode cX6_calls 149 = .ok (.istore_n 2, 1) := by decide +kernel
theorem dX6_calls_150 : decode cX6_calls 150 = .ok (.iload_n 3, 1) := by decide +kernel
theorem dX6_calls_151 : decode cX6_calls 151 = .ok (.iload 7, 2) := by decide +kernel
theorem dX6_calls_153 : decode cX6_calls 153 = .ok (.iadd, 1) := by decide +kernel
theorem dX6_calls_154 : decode cX6_calls 154 = .ok (.istore_n 3, 1) := by decide +kernel
theorem dX6_calls_155 : decode cX6_calls 155 = .ok (.iinc 4 1, 3) := by decide +kernel
theorem dX6_calls_158 : decode cX6_calls 158 = .ok (.iinc 5 1, 3) := by decide +kernel
theorem dX6_calls_161 : decode cX6_calls 161 = .ok (.goto (-144), 3) := by decide +kernel
theorem dX6_calls_164 : decode cX6_calls 164 = .ok (.iload_n 2, 1) := by decide +kernel
theorem dX6_calls_165 : decode cX6_calls 165 = .ok (.ireturn, 1) := by decide +kernel
theorem dX6_isSet_0 : decode cX6_isSet 0 = .ok (.aload_n 0, 1) := by decide +kernel
theorem dX6_isSet_1 : decode cX6_isSet 1 = .ok (.iconst 0, 1) := by decide +kernel
theorem dX6_isSet_2 : decode cX6_isSet 2 = .ok (.putfield 150, 3) := by decide +kernel
theorem dX6_isSet_5 : decode cX6_isSet 5 = .ok (.iload_n 1, 1) := by decide +kernel
theorem dX6_isSet_6 : decode cX6_isSet 6 = .ok (.ifCond .eq 7, 3) := by decide +kernel
theorem dX6_isSet_9 : decode cX6_isSet 9 = .ok (.iconst 1, 1) := by decide +kernel
theorem dX6_isSet_10 : decode cX6_isSet 10 = .ok (.goto 4, 3) := by decide +kernel
theorem dX6_isSet_13 : decode cX6_isSet 13 = .ok (.iconst 0, 1) := by decide +kernel
theorem dX6_isSet_14 : decode cX6_isSet 14 = .ok (.istore_n 2, 1) := by decide +kernel
theorem dX6_isSet_15 : decode cX6_isSet 15 = .ok (.iconst 0, 1) := by decide +kernel
theorem dX6_isSet_16 : decode cX6_isSet 16 = .ok (.istore_n 3, 1) := by decide +kernel
theorem dX6_isSet_17 : decode cX6_isSet 17 = .ok (.iload_n 3, 1) := by decide +kernel
theorem dX6_isSet_18 : decode cX6_isSet 18 = .ok (.bipush 32, 2) := by decide +kernel
theorem dX6_isSet_20 : decode cX6_isSet 20 = .ok (.if_icmp .ge 69, 3) := by decide +kernel
theorem dX6_isSet_23 : decode cX6_isSet 23 = .ok (.iload_n 1, 1) := by decide +kernel
theorem dX6_isSet_24 : decode cX6_isSet 24 = .ok (.iload_n 3, 1) := by decide +kernel
theorem dX6_isSet_25 : decode cX6_isSet 25 = .ok (.ishr, 1) := by decide +kernel
theorem dX6_isSet_26 : decode cX6_isSet 26 = .ok (.iconst 1, 1) := by decide +kernel
theorem dX6_isSet_27 : decode cX6_isSet 27 = .ok (.iand, 1) := by decide +kernel
theorem dX6_isSet_28 : decode cX6_isSet 28 = .ok (.iconst 1, 1) := by decide +kernel
theorem dX6_isSet_29 : decode cX6_isSet 29 = .ok (.if_icmp .ne 54, 3) := by decide +kernel
theorem dX6_isSet_32 : decode cX6_isSet 32 = .ok (.iload_n 2, 1) := by decide +kernel
theorem dX6_isSet_33 : decode cX6_isSet 33 = .ok (.ifCond .eq 24, 3) := by decide +kernel
theorem dX6_isSet_36 : decode cX6_isSet 36 = .ok (.aload_n 0, 1) := by decide +kernel
theorem dX6_isSet_37 : decode cX6_isSet 37 = .ok (.iload_n 3, 1) := by decide +kernel
theorem dX6_isSet_38 : decode cX6_isSet 38 = .ok (.invokevirtual 108, 3) := by decide +kernel
theorem dX6_isSet_41 : decode cX6_isSet 41 = .ok (.ifCond .eq 16, 3) := by decide +kernel
theorem dX6_isSet_44 : decode cX6_isSet 44 = .ok (.aload_n 0, 1) := by decide +kernel
theorem dX6_isSet_45 : decode cX6_isSet 45 = .ok (.getfield 150, 3) := by decide +kernel
theorem dX6_isSet_48 : decode cX6_isSet 48 = .ok (.bipush 8, 2) := by decide +kernel
theorem dX6_isSet_50 : decode cX6_isSet 50 = .ok (.if_icmp .ge 7, 3) := by decide +kernel
theorem dX6_isSet_53 : decode cX6_isSet 53 = .ok (.iconst 1, 1) := by decide +kernel
theorem dX6_isSet_54 : decode cX6_isSet 54 = .ok (.goto 4, 3) := by decide +kernel
theorem dX6_isSet_57 : decode cX6_isSet 57 = .ok (.iconst 0, 1) := by decide +kernel
theorem dX6_isSet_58 : decode cX6_isSet 58 = .ok (.istore_n 2, 1) := by decide +kernel
theorem dX6_isSet_59 : decode cX6_isSet 59 = .ok (.iload_n 2, 1) := by decide +kernel
theorem dX6_isSet_60 : decode cX6_isSet 60 = .ok (.ifCond .eq 23, 3) := by decide +kernel
theorem dX6_isSet_63 : decode cX6_isSet 63 = .ok (.aload_n 0, 1) := by decide +kernel
theorem dX6_isSet_64 : decode cX6_isSet 64 = .ok (.getfield 66, 3) := by decide +kernel
theorem dX6_isSet_67 : decode cX6_isSet 67 = .ok (.aload_n 0, 1) := by decide +kernel
theorem dX6_isSet_68 : decode cX6_isSet 68 = .ok (.getfield 150, 3) := by decide +kernel
theorem dX6_isSet_71 : decode cX6_isSet 71 = .ok (.iload_n 3, 1) := by decide +kernel
theorem dX6_isSet_72 : decode cX6_isSet 72 = .ok (.iastore, 1) := by decide +kernel
theorem dX6_isSet_73 : decode cX6_isSet 73 = .ok (.aload_n 0, 1) := by decide +kernel
theorem dX6_isSet_74 : decode cX6_isSet 74 = .ok (.dup, 1) := by decide +kernel
theorem dX6_isSet_75 : decode cX6_isSet 75 = .ok (.getfield 150, 3) := by decide +kernel
theorem dX6_isSet_78 : decode cX6_isSet 78 = .ok (.iconst 1, 1) := by decide +kernel
theorem dX6_isSet_79 : decode cX6_isSet 79 = .ok (.iadd, 1) := by decide +kernel
theorem dX6_isSet_80 : decode cX6_isSet 80 = .ok (.putfield 150, 3) := by decide +kernel
theorem dX6_isSet_83 : decode cX6_isSet 83 = .ok (.iinc 3 1, 3) := by decide +kernel
theorem dX6_isSet_86 : decode cX6_isSet 86 = .ok (.goto (-69), 3) := by decide +kernel
theorem dX6_isSet_89 : decode cX6_isSet 89 = .ok (.iload_n 2, 1) := by decide +kernel
theorem dX6_isSet_90 : decode cX6_isSet 90 = .ok (.ireturn, 1) := by decide +kernel
theorem dX6_size_0 : decode cX6_size 0 = .ok (.iload_n 0, 1) := by decide +kernel
theorem dX6_size_1 : decode cX6_size 1 = .ok (.ifCond .ge 8, 3) := by decide +kernel
theorem dX6_size_4 : decode cX6_size 4 = .ok (.iload_n 0, 1) := by decide +kernel
theorem dX6_size_5 : decode cX6_size 5 = .ok (.ineg, 1) := by decide +kernel
theorem dX6_size_6 : decode cX6_size 6 = .ok (.goto 4, 3) := by decide +kernel
theorem dX6_size_9 : decode cX6_size 9 = .ok (.iload_n 0, 1) := by decide +kernel
theorem dX6_size_10 : decode cX6_size 10 = .ok (.ireturn, 1) := by decide +kernel
theorem dX6_fromDepot_0 : decode cX6_fromDepot 0 = .ok (.aload_n 0, 1) := by decide +kernel
theorem dX6_fromDepot_1 : decode cX6_fromDepot 1 = .ok (.getfield 7, 3) := by decide +kernel
theorem dX6_fromDepot_4 : decode cX6_fromDepot 4 = .ok (.aload_n 0, 1) := by decide +kernel
theorem dX6_fromDepot_5 : decode cX6_fromDepot 5 = .ok (.getfield 66, 3) := by decide +kernel
theorem dX6_fromDepot_8 : decode cX6_fromDepot 8 = .ok (.iload_n 1, 1) := by decide +kernel
theorem dX6_fromDepot_9 : decode cX6_fromDepot 9 = .ok (.iaload, 1) := by decide +kernel
theorem dX6_fromDepot_10 : decode cX6_fromDepot 10 = .ok (.iaload, 1) := by decide +kernel
theorem dX6_fromDepot_11 : decode cX6_fromDepot 11 = .ok (.bipush 25, 2) := by decide +kernel
theorem dX6_fromDepot_13 : decode cX6_fromDepot 13 = .ok (.isub, 1) := by decide +kernel
theorem dX6_fromDepot_14 : decode cX6_fromDepot 14 = .ok (.invokestatic 153, 3) := by decide +kernel
theorem dX6_fromDepot_17 : decode cX6_fromDepot 17 = .ok (.aload_n 0, 1) := by decide +kernel
theorem dX6_fromDepot_18 : decode cX6_fromDepot 18 = .ok (.getfield 13, 3) := by decide +kernel
theorem dX6_fromDepot_21 : decode cX6_fromDepot 21 = .ok (.aload_n 0, 1) := by decide +kernel
theorem dX6_fromDepot_22 : decode cX6_fromDepot 22 = .ok (.getfield 66, 3) := by decide +kernel
theorem dX6_fromDepot_25 : decode cX6_fromDepot 25 = .ok (.iload_n 1, 1) := by decide +kernel
theorem dX6_fromDepot_26 : decode cX6_fromDepot 26 = .ok (.iaload, 1) := by decide +kernel
theorem dX6_fromDepot_27 : decode cX6_fromDepot 27 = .ok (.iaload, 1) := by decide +kernel
theorem dX6_fromDepot_28 : decode cX6_fromDepot 28 = .ok (.bipush 25, 2) := by decide +kernel
theorem dX6_fromDepot_30 : decode cX6_fromDepot 30 = .ok (.isub, 1) := by decide +kernel
theorem dX6_fromDepot_31 : decode cX6_fromDepot 31 = .ok (.invokestatic 153, 3) := by decide +kernel
theorem dX6_fromDepot_34 : decode cX6_fromDepot 34 = .ok (.iadd, 1) := by decide +kernel
theorem dX6_fromDepot_35 : decode cX6_fromDepot 35 = .ok (.ireturn, 1) := by decide +kernel
theorem dX6_between_0 : decode cX6_between 0 = .ok (.aload_n 0, 1) := by decide +kernel
theorem dX6_between_1 : decode cX6_between 1 = .ok (.getfield 7, 3) := by decide +kernel
theorem dX6_between_4 : decode cX6_between 4 = .ok (.aload_n 0, 1) := by decide +kernel
theorem dX6_between_5 : decode cX6_between 5 = .ok (.getfield 66, 3) := by decide +kernel
theorem dX6_between_8 : decode cX6_between 8 = .ok (.iload_n 1, 1) := by decide +kernel
theorem dX6_between_9 : decode cX6_between 9 = .ok (.iaload, 1) := by decide +kernel
theorem dX6_between_10 : decode cX6_between 10 = .ok (.iaload, 1) := by decide +kernel
theorem dX6_between_11 : decode cX6_between 11 = .ok (.aload_n 0, 1) := by decide +kernel
theorem dX6_between_12 : decode cX6_between 12 = .ok (.getfield 7, 3) := by decide +kernel
theorem dX6_between_15 : decode cX6_between 15 = .ok (.aload_n 0, 1) := by decide +kernel
theorem dX6_between_16 : decode cX6_between 16 = .ok (.getfield 66, 3) := by decide +kernel
theorem dX6_between_19 : decode cX6_between 19 = .ok (.iload_n 2, 1) := by decide +kernel
theorem dX6_between_20 : decode cX6_between 20 = .ok (.iaload, 1) := by decide +kernel
theorem dX6_between_21 : decode cX6_between 21 = .ok (.iaload, 1) := by decide +kernel
theorem dX6_between_22 : decode cX6_between 22 = .ok (.isub, 1) := by decide +kernel
theorem dX6_between_23 : decode cX6_between 23 = .ok (.invokestatic 153, 3) := by decide +kernel
theorem dX6_between_26 : decode cX6_between 26 = .ok (.aload_n 0, 1) := by decide +kernel
theorem dX6_between_27 : decode cX6_between 27 = .ok (.getfield 13, 3) := by decide +kernel
theorem dX6_between_30 : decode cX6_between 30 = .ok (.aload_n 0, 1) := by decide +kernel
theorem dX6_between_31 : decode cX6_between 31 = .ok (.getfield 66, 3) := by decide +kernel
theorem dX6_between_34 : decode cX6_between 34 = .ok (.iload_n 1, 1) := by decide +kernel
theorem dX6_between_35 : decode cX6_between 35 = .ok (.iaload, 1) := by decide +kernel
theorem dX6_between_36 : decode cX6_between 36 = .ok (.iaload, 1) := by decide +kernel
theorem dX6_between_37 : decode cX6_between 37 = .ok (.aload_n 0, 1) := by decide +kernel
theorem dX6_between_38 : decode cX6_between 38 = .ok (.getfield 13, 3) := by decide +kernel
theorem dX6_between_41 : decode cX6_between 41 = .ok (.aload_n 0, 1) := by decide +kernel
theorem dX6_between_42 : decode cX6_between 42 = .ok (.getfield 66, 3) := by decide +kernel
theorem dX6_between_45 : decode cX6_between 45 = .ok (.iload_n 2, 1) := by decide +kernel
theorem dX6_between_46 : decode cX6_between 46 = .ok (.iaload, 1) := by decide +kernel
theorem dX6_between_47 : decode cX6_between 47 = .ok (.iaload, 1) := by decide +kernel
theorem dX6_between_48 : decode cX6_between 48 = .ok (.isub, 1) := by decide +kernel
theorem dX6_between_49 : decode cX6_between 49 = .ok (.invokestatic 153, 3) := by decide +kernel
theorem dX6_between_52 : decode cX6_between 52 = .ok (.iadd, 1) := by decide +kernel
theorem dX6_between_53 : decode cX6_between 53 = .ok (.ireturn, 1) := by decide +kernel
theorem dX6_findWays_0 : decode cX6_findWays 0 = .ok (.iconst 0, 1) := by decide +kernel
theorem dX6_findWays_1 : decode cX6_findWays 1 = .ok (.istore_n 1, 1) := by decide +kernel
theorem dX6_findWays_2 : decode cX6_findWays 2 = .ok (.iload_n 1, 1) := by decide +kernel
theorem dX6_findWays_3 : decode cX6_findWays 3 = .ok (.iconst 1, 1) := by decide +kernel
theorem dX6_findWays_4 : decode cX6_findWays 4 = .ok (.aload_n 0, 1) := by decide +kernel
theorem dX6_findWays_5 : decode cX6_findWays 5 = .ok (.getfield 150, 3) := by decide +kernel
theorem dX6_findWays_8 : decode cX6_findWays 8 = .ok (.ishl, 1) := by decide +kernel
theorem dX6_findWays_9 : decode cX6_findWays 9 = .ok (.if_icmp .ge 128, 3) := by decide +kernel
theorem dX6_findWays_12 : decode cX6_findWays 12 = .ok (.iconst 0, 1) := by decide +kernel
theorem dX6_findWays_13 : decode cX6_findWays 13 = .ok (.istore_n 2, 1) := by decide +kernel
theorem dX6_findWays_14 : decode cX6_findWays 14 = .ok (.iload_n 2, 1) := by decide +kernel
theorem dX6_findWays_15 : decode cX6_findWays 15 = .ok (.aload_n 0, 1) := by decide +kernel
theorem dX6_findWays_16 : decode cX6_findWays 16 = .ok (.getfield 150, 3) := by decide +kernel
theorem dX6_findWays_19 : decode cX6_findWays 19 = .ok (.if_icmp .ge 112, 3) := by decide +kernel
theorem dX6_findWays_22 : decode cX6_findWays 22 = .ok (.iload_n 1, 1) := by decide +kernel
theorem dX6_findWays_23 : decode cX6_findWays 23 = .ok (.ifCond .ne 11, 3) := by decide +kernel
theorem dX6_findWays_26 : decode cX6_findWays 26 = .ok (.aload_n 0, 1) := by decide +kernel
theorem dX6_findWays_27 : decode cX6_findWays 27 = .ok (.iload_n 2, 1) := by decide +kernel
theorem dX6_findWays_28 : decode cX6_findWays 28 = .ok (.invokevirtual 156, 3) := by decide +kernel
theorem dX6_findWays_31 : decode cX6_findWays 31 = .ok (.goto 5, 3) := by decide +kernel
theorem dX6_findWays_34 : decode cX6_findWays 34 = .ok (.ldc 145, 2) := by decide +kernel
theorem dX6_findWays_36 : decode cX6_findWays 36 = .ok (.istore_n 3, 1) := by decide +kernel
theorem dX6_findWays_37 : decode cX6_findWays 37 = .ok (.iconst 0, 1) := by decide +kernel
theorem dX6_findWays_38 : decode cX6_findWays 38 = .ok (.istore 4, 2) := by decide +kernel
theorem dX6_findWays_40 : decode cX6_findWays 40 = .ok (.iload 4, 2) := by decide +kernel
theorem dX6_findWays_42 : decode cX6_findWays 42 = .ok (.aload_n 0, 1) := by decide +kernel
theorem dX6_findWays_43 : decode cX6_findWays 43 = .ok (.getfield 150, 3) := by decide +kernel
theorem dX6_findWays_46 : decode cX6_findWays 46 = .ok (.if_icmp .ge 67, 3) := by decide +kernel
theorem dX6_findWays_49 : decode cX6_findWays 49 = .ok (.iload_n 1, 1) := by decide +kernel
theorem dX6_findWays_50 : decode cX6_findWays 50 = .ok (.iload 4, 2) := by decide +kernel
theorem dX6_findWays_52 : decode cX6_findWays 52 = .ok (.ishr, 1) := by decide +kernel
theorem dX6_findWays_53 : decode cX6_findWays 53 = .ok (.iconst 1, 1) := by decide +kernel
theorem dX6_findWays_54 : decode cX6_findWays 54 = .ok (.iand, 1) := by decide +kernel
theorem dX6_findWays_55 : decode cX6_findWays 55 = .ok (.iconst 1, 1) := by decide +kernel
theorem dX6_findWays_56 : decode cX6_findWays 56 = .ok (.if_icmp .ne 51, 3) := by decide +kernel
theorem dX6_findWays_59 : decode cX6_findWays 59 = .ok (.aload_n 0, 1) := by decide +kernel
theorem dX6_findWays_60 : decode cX6_findWays 60 = .ok (.iload_n 2, 1) := by decide +kernel
theorem dX6_findWays_61 : decode cX6_findWays 61 = .ok (.iload 4, 2) := by decide +kernel
theorem dX6_findWays_63 : decode cX6_findWays 63 = .ok (.invokevirtual 159, 3) := by decide +kernel
theorem dX6_findWays_66 : decode cX6_findWays 66 = .ok (.aload_n 0, 1) := by decide +kernel
theorem dX6_findWays_67 : decode cX6_findWays 67 = .ok (.getfield 69, 3) := by decide +kernel
theorem dX6_findWays_70 : decode cX6_findWays 70 = .ok (.bipush 8, 2) := by decide +kernel
theorem dX6_findWays_72 : decode cX6_findWays 72 = .ok (.iload_n 1, 1) := by decide +kernel
theorem dX6_findWays_73 : decode cX6_findWays 73 = .ok (.iconst 1, 1) := by decide +kernel
theorem dX6_findWays_74 : decode cX6_findWays 74 = .ok (.iload 4, 2) := by decide +kernel
theorem dX6_findWays_76 : decode cX6_findWays 76 = .ok (.ishl, 1) := by decide +kernel
theorem dX6_findWays_77 : decode cX6_findWays 77 = .ok (.iconst (-1), 1) := by decide +kernel
theorem dX6_findWays_78 : decode cX6_findWays 78 = .ok (.ixor, 1) := by decide +kernel
theorem dX6_findWays_79 : decode cX6_findWays 79 = .ok (.iand, 1) := by decide +kernel
theorem dX6_findWays_80 : decode cX6_findWays 80 = .ok (.imul, 1) := by decide +kernel
theorem dX6_findWays_81 : decode cX6_findWays 81 = .ok (.iload 4, 2) := by decide +kernel
theorem dX6_findWays_83 : decode cX6_findWays 83 = .ok (.iadd, 1) := by decide +kernel
theorem dX6_findWays_84 : decode cX6_findWays 84 = .ok (.iaload, 1) := by decide +kernel
theorem dX6_findWays_85 : decode cX6_findWays 85 = .ok (.iadd, 1) := by decide +kernel
theorem dX6_findWays_86 : decode cX6_findWays 86 = .ok (.istore 5, 2) := by decide +kernel
theorem dX6_findWays_88 : decode cX6_findWays 88 = .ok (.iload_n 3, 1) := by decide +kernel
theorem dX6_findWays_89 : decode cX6_findWays 89 = .ok (.ldc 145, 2) := by decide +kernel
theorem dX6_findWays_91 : decode cX6_findWays 91 = .ok (.if_icmp .eq 9, 3) := by decide +kernel
theorem dX6_findWays_94 : decode cX6_findWays 94 = .ok (.iload 5, 2) := by decide +kernel
theorem dX6_findWays_96 : decode cX6_findWays 96 = .ok (.iload_n 3, 1) := by decide +kernel
theorem dX6_findWays_97 : decode cX6_findWays 97 = .ok (.if_icmp .ge 8, 3) := by decide +kernel
theorem dX6_findWays_100 : decode cX6_findWays 100 = .ok (.iload 5, 2) := by decide +kernel
theorem dX6_findWays_102 : decode cX6_findWays 102 = .ok (.goto 4, 3) := by decide +kernel
theorem dX6_findWays_105 : decode cX6_findWays 105 = .ok (.iload_n 3, 1) := by decide +kernel
theorem dX6_findWays_106 : decode cX6_findWays 106 = .ok (.istore_n 3, 1) := by decide +kernel
theorem dX6_findWays_107 : decode cX6_findWays 107 = .ok (.iinc 4 1, 3) := by decide +kernel
theorem dX6_findWays_110 : decode cX6_findWays 110 = .ok (.goto (-70), 3) := by decide +kernel
theorem dX6_findWays_113 : decode cX6_findWays 113 = .ok (.aload_n 0, 1) := by decide +kernel
theorem dX6_findWays_114 : decode cX6_findWays 114 = .ok (.getfield 69, 3) := by decide +kernel
theorem dX6_findWays_117 : decode cX6_findWays 117 = .ok (.bipush 8, 2) := by decide +kernel
theorem dX6_findWays_119 : decode cX6_findWays 119 = .ok (.iload_n 1, 1) := by decide +kernel
theorem dX6_findWays_120 : decode cX6_findWays 120 = .ok (.imul, 1) := by decide +kernel
theorem dX6_findWays_121 : decode cX6_findWays 121 = .ok (.iload_n 2, 1) := by decide +kernel
theorem dX6_findWays_122 : decode cX6_findWays 122 = .ok (.iadd, 1) := by decide +kernel
theorem dX6_findWays_123 : decode cX6_findWays 123 = .ok (.iload_n 3, 1) := by decide +kernel
theorem dX6_findWays_124 : decode cX6_findWays 124 = .ok (.iastore, 1) := by decide +kernel
theorem dX6_findWays_125 : decode cX6_findWays 125 = .ok (.iinc 2 1, 3) := by decide +kernel
theorem dX6_findWays_128 : decode cX6_findWays 128 = .ok (.goto (-114), 3) := by decide +kernel
theorem dX6_findWays_131 : decode cX6_findWays 131 = .ok (.iinc 1 1, 3) := by decide +kernel
theorem dX6_findWays_134 : decode cX6_findWays 134 = .ok (.goto (-132), 3) := by decide +kernel
theorem dX6_findWays_137 : decode cX6_findWays 137 = .ok (.return_, 1) := by decide +kernel
theorem dX6_nextOf_0 : decode cX6_nextOf 0 = .ok (.ldc 145, 2) := by decide +kernel
theorem dX6_nextOf_2 : decode cX6_nextOf 2 = .ok (.istore_n 3, 1) := by decide +kernel
theorem dX6_nextOf_3 : decode cX6_nextOf 3 = .ok (.iconst 0, 1) := by decide +kernel
theorem dX6_nextOf_4 : decode cX6_nextOf 4 = .ok (.istore 4, 2) := by decide +kernel
theorem dX6_nextOf_6 : decode cX6_nextOf 6 = .ok (.iconst 0, 1) := by decide +kernel
theorem dX6_nextOf_7 : decode cX6_nextOf 7 = .ok (.istore 5, 2) := by decide +kernel
theorem dX6_nextOf_9 : decode cX6_nextOf 9 = .ok (.iload 5, 2) := by decide +kernel
theorem dX6_nextOf_11 : decode cX6_nextOf 11 = .ok (.aload_n 0, 1) := by decide +kernel
theorem dX6_nextOf_12 : decode cX6_nextOf 12 = .ok (.getfield 150, 3) := by decide +kernel
theorem dX6_nextOf_15 : decode cX6_nextOf 15 = .ok (.if_icmp .ge 83, 3) := by decide +kernel
theorem dX6_nextOf_18 : decode cX6_nextOf 18 = .ok (.iload_n 2, 1) := by decide +kernel
theorem dX6_nextOf_19 : decode cX6_nextOf 19 = .ok (.iload 5, 2) := by decide +kernel
theorem dX6_nextOf_21 : decode cX6_nextOf 21 = .ok (.ishr, 1) := by decide +kernel
theorem dX6_nextOf_22 : decode cX6_nextOf 22 = .ok (.iconst 1, 1) := by decide +kernel
theorem dX6_nextOf_23 : decode cX6_nextOf 23 = .ok (.iand, 1) := by decide +kernel
theorem dX6_nextOf_24 : decode cX6_nextOf 24 = .ok (.iconst 1, 1) := by decide +kernel
theorem dX6_nextOf_25 : decode cX6_nextOf 25 = .ok (.if_icmp .ne 67, 3) := by decide +kernel
theorem dX6_nextOf_28 : decode cX6_nextOf 28 = .ok (.iload_n 1, 1) := by decide +kernel
theorem dX6_nextOf_29 : decode cX6_nextOf 29 = .ok (.ldc 145, 2) := by decide +kernel
theorem dX6_nextOf_31 : decode cX6_nextOf 31 = .ok (.if_icmp .ne 12, 3) := by decide +kernel
theorem dX6_nextOf_34 : decode cX6_nextOf 34 = .ok (.aload_n 0, 1) := by decide +kernel
theorem dX6_nextOf_35 : decode cX6_nextOf 35 = .ok (.iload 5, 2) := by decide +kernel
theorem dX6_nextOf_37 : decode cX6_nextOf 37 = .ok (.invokevirtual 156, 3) := by decide +kernel
theorem dX6_nextOf_40 : decode cX6_nextOf 40 = .ok (.goto 10, 3) := by decide +kernel
theorem dX6_nextOf_43 : decode cX6_nextOf 43 = .ok (.aload_n 0, 1) := by decide +kernel
theorem dX6_nextOf_44 : decode cX6_nextOf 44 = .ok (.iload_n 1, 1) := by decide +kernel
theorem dX6_nextOf_45 : decode cX6_nextOf 45 = .ok (.iload 5, 2) := by decide +kernel
theorem dX6_nextOf_47 : decode cX6_nextOf 47 = .ok (.invokevirtual 159, 3) := by decide +kernel
theorem dX6_nextOf_50 : decode cX6_nextOf 50 = .ok (.aload_n 0, 1) := by decide +kernel
theorem dX6_nextOf_51 : decode cX6_nextOf 51 = .ok (.getfield 69, 3) := by decide +kernel
theorem dX6_nextOf_54 : decode cX6_nextOf 54 = .ok (.bipush 8, 2) := by decide +kernel
theorem dX6_nextOf_56 : decode cX6_nextOf 56 = .ok (.iload_n 2, 1) := by decide +kernel
theorem dX6_nextOf_57 : decode cX6_nextOf 57 = .ok (.iconst 1, 1) := by decide +kernel
theorem dX6_nextOf_58 : decode cX6_nextOf 58 = .ok (.iload 5, 2) := by decide +kernel
theorem dX6_nextOf_60 : decode cX6_nextOf 60 = .ok (.ishl, 1) := by decide +kernel
theorem dX6_nextOf_61 : decode cX6_nextOf 61 = .ok (.iconst (-1), 1) := by decide +kernel
theorem dX6_nextOf_62 : decode cX6_nextOf 62 = .ok (.ixor, 1) := by decide +kernel
theorem dX6_nextOf_63 : decode cX6_nextOf 63 = .ok (.iand, 1) := by decide +kernel
theorem dX6_nextOf_64 : decode cX6_nextOf 64 = .ok (.imul, 1) := by decide +kernel
theorem dX6_nextOf_65 : decode cX6_nextOf 65 = .ok (.iload 5, 2) := by decide +kernel
theorem dX6_nextOf_67 : decode cX6_nextOf 67 = .ok (.iadd, 1) := by decide +kernel
theorem dX6_nextOf_68 : decode cX6_nextOf 68 = .ok (.iaload, 1) := by decide +kernel
theorem dX6_nextOf_69 : decode cX6_nextOf 69 = .ok (.iadd, 1) := by decide +kernel
theorem dX6_nextOf_70 : decode cX6_nextOf 70 = .ok (.istore 6, 2) := by decide +kernel
theorem dX6_nextOf_72 : decode cX6_nextOf 72 = .ok (.iload_n 3, 1) := by decide +kernel
theorem dX6_nextOf_73 : decode cX6_nextOf 73 = .ok (.ldc 145, 2) := by decide +kernel
theorem dX6_nextOf_75 : decode cX6_nextOf 75 = .ok (.if_icmp .eq 10, 3) := by decide +kernel
theorem dX6_nextOf_78 : decode cX6_nextOf 78 = .ok (.iload 6, 2) := by decide +kernel
theorem dX6_nextOf_80 : decode cX6_nextOf 80 = .ok (.iload 4, 2) := by decide +kernel
theorem dX6_nextOf_82 : decode cX6_nextOf 82 = .ok (.if_icmp .ge 10, 3) := by decide +kernel
theorem dX6_nextOf_85 : decode cX6_nextOf 85 = .ok (.iload 5, 2) := by decide +kernel
theorem dX6_nextOf_87 : decode cX6_nextOf 87 = .ok (.istore_n 3, 1) := by decide +kernel
theorem dX6_nextOf_88 : decode cX6_nextOf 88 = .ok (.iload 6, 2) := by decide +kernel
theorem dX6_nextOf_90 : decode cX6_nextOf 90 = .ok (.istore 4, 2) := by decide +kernel
theorem dX6_nextOf_92 : decode cX6_nextOf 92 = .ok (.iinc 5 1, 3) := by decide +kernel
theorem dX6_nextOf_95 : decode cX6_nextOf 95 = .ok (.goto (-86), 3) := by decide +kernel
theorem dX6_nextOf_98 : decode cX6_nextOf 98 = .ok (.iload_n 3, 1) := by decide +kernel
theorem dX6_nextOf_99 : decode cX6_nextOf 99 = .ok (.ireturn, 1) := by decide +kernel
theorem dX6_round_0 : decode cX6_round 0 = .ok (.aload_n 0, 1) := by decide +kernel
theorem dX6_round_1 : decode cX6_round 1 = .ok (.iconst 0, 1) := by decide +kernel
theorem dX6_round_2 : decode cX6_round 2 = .ok (.putfield 90, 3) := by decide +kernel
theorem dX6_round_5 : decode cX6_round 5 = .ok (.aload_n 0, 1) := by decide +kernel
theorem dX6_round_6 : decode cX6_round 6 = .ok (.iload_n 1, 1) := by decide +kernel
theorem dX6_round_7 : decode cX6_round 7 = .ok (.invokevirtual 162, 3) := by decide +kernel
theorem dX6_round_10 : decode cX6_round 10 = .ok (.ifCond .eq 15, 3) := by decide +kernel
theorem dX6_round_13 : decode cX6_round 13 = .ok (.iload_n 2, 1) := by decide +kernel
theorem dX6_round_14 : decode cX6_round 14 = .ok (.i2l, 1) := by decide +kernel
theorem dX6_round_15 : decode cX6_round 15 = .ok (.lconst 0, 1) := by decide +kernel
theorem dX6_round_16 : decode cX6_round 16 = .ok (.ldc2_w 165, 3) := by decide +kernel
theorem dX6_round_19 : decode cX6_round 19 = .ok (.invokestatic 96, 3) := by decide +kernel
theorem dX6_round_22 : decode cX6_round 22 = .ok (.ifCond .ne 6, 3) := by decide +kernel
theorem dX6_round_25 : decode cX6_round 25 = .ok (.ldc 106, 2) := by decide +kernel
theorem dX6_round_27 : decode cX6_round 27 = .ok (.ireturn, 1) := by decide +kernel
theorem dX6_round_28 : decode cX6_round 28 = .ok (.iconst 0, 1) := by decide +kernel
theorem dX6_round_29 : decode cX6_round 29 = .ok (.istore_n 3, 1) := by decide +kernel
theorem dX6_round_30 : decode cX6_round 30 = .ok (.iconst 0, 1) := by decide +kernel
theorem dX6_round_31 : decode cX6_round 31 = .ok (.istore 4, 2) := by decide +kernel
theorem dX6_round_33 : decode cX6_round 33 = .ok (.iload 4, 2) := by decide +kernel
theorem dX6_round_35 : decode cX6_round 35 = .ok (.aload_n 0, 1) := by decide +kernel
theorem dX6_round_36 : decode cX6_round 36 = .ok (.getfield 150, 3) := by decide +kernel
theorem dX6_round_39 : decode cX6_round 39 = .ok (.if_icmp .ge 37, 3) := by decide +kernel
theorem dX6_round_42 : decode cX6_round 42 = .ok (.iload_n 3, 1) := by decide +kernel
theorem dX6_round_43 : decode cX6_round 43 = .ok (.aload_n 0, 1) := by decide +kernel
theorem dX6_round_44 : decode cX6_round 44 = .ok (.getfield 16, 3) := by decide +kernel
theorem dX6_round_47 : decode cX6_round 47 = .ok (.aload_n 0, 1) := by decide +kernel
theorem dX6_round_48 : decode cX6_round 48 = .ok (.getfield 66, 3) := by decide +kernel
theorem dX6_round_51 : decode cX6_round 51 = .ok (.iload 4, 2) := by decide +kernel
theorem dX6_round_53 : decode cX6_round 53 = .ok (.iaload, 1) := by decide +kernel
theorem dX6_round_54 : decode cX6_round 54 = .ok (.iaload, 1) := by decide +kernel
theorem dX6_round_55 : decode cX6_round 55 = .ok (.aload_n 0, 1) := by decide +kernel
theorem dX6_round_56 : decode cX6_round 56 = .ok (.getfield 25, 3) := by decide +kernel
theorem dX6_round_59 : decode cX6_round 59 = .ok (.aload_n 0, 1) := by decide +kernel
theorem dX6_round_60 : decode cX6_round 60 = .ok (.getfield 66, 3) := by decide +kernel
theorem dX6_round_63 : decode cX6_round 63 = .ok (.iload 4, 2) := by decide +kernel
theorem dX6_round_65 : decode cX6_round 65 = .ok (.iaload, 1) := by decide +kernel
theorem dX6_round_66 : decode cX6_round 66 = .ok (.iaload, 1) := by decide +kernel
theorem dX6_round_67 : decode cX6_round 67 = .ok (.isub, 1) := by decide +kernel
theorem dX6_round_68 : decode cX6_round 68 = .ok (.iadd, 1) := by decide +kernel
theorem dX6_round_69 : decode cX6_round 69 = .ok (.istore_n 3, 1) := by decide +kernel
theorem dX6_round_70 : decode cX6_round 70 = .ok (.iinc 4 1, 3) := by decide +kernel
theorem dX6_round_73 : decode cX6_round 73 = .ok (.goto (-40), 3) := by decide +kernel
theorem dX6_round_76 : decode cX6_round 76 = .ok (.iload_n 2, 1) := by decide +kernel
theorem dX6_round_77 : decode cX6_round 77 = .ok (.ifCond .le 34, 3) := by decide +kernel
theorem dX6_round_80 : decode cX6_round 80 = .ok (.iload_n 2, 1) := by decide +kernel
theorem dX6_round_81 : decode cX6_round 81 = .ok (.iconst 2, 1) := by decide +kernel
theorem dX6_round_82 : decode cX6_round 82 = .ok (.if_icmp .ne 7, 3) := by decide +kernel
theorem dX6_round_85 : decode cX6_round 85 = .ok (.iload_n 3, 1) := by decide +kernel
theorem dX6_round_86 : decode cX6_round 86 = .ok (.goto 24, 3) := by decide +kernel
theorem dX6_round_89 : decode cX6_round 89 = .ok (.iload_n 3, 1) := by decide +kernel
theorem dX6_round_90 : decode cX6_round 90 = .ok (.aload_n 0, 1) := by decide +kernel
theorem dX6_round_91 : decode cX6_round 91 = .ok (.getfield 60, 3) := by decide +kernel
theorem dX6_round_94 : decode cX6_round 94 = .ok (.if_icmp .gt 15, 3) := by decide +kernel
theorem dX6_round_97 : decode cX6_round 97 = .ok (.iload_n 3, 1) := by decide +kernel
theorem dX6_round_98 : decode cX6_round 98 = .ok (.aload_n 0, 1) := by decide +kernel
theorem dX6_round_99 : decode cX6_round 99 = .ok (.getfield 134, 3) := by decide +kernel
theorem dX6_round_102 : decode cX6_round 102 = .ok (.if_icmp .gt 7, 3) := by decide +kernel
theorem dX6_round_105 : decode cX6_round 105 = .ok (.iconst 1, 1) := by decide +kernel
theorem dX6_round_106 : decode cX6_round 106 = .ok (.goto 4, 3) := by decide +kernel
theorem dX6_round_109 : decode cX6_round 109 = .ok (.iconst 0, 1) := by decide +kernel
theorem dX6_round_110 : decode cX6_round 110 = .ok (.ireturn, 1) := by decide +kernel
theorem dX6_round_111 : decode cX6_round 111 = .ok (.aload_n 0, 1) := by decide +kernel
theorem dX6_round_112 : decode cX6_round 112 = .ok (.invokevirtual 167, 3) := by decide +kernel
theorem dX6_round_115 : decode cX6_round 115 = .ok (.iconst 1, 1) := by decide +kernel
theorem dX6_round_116 : decode cX6_round 116 = .ok (.aload_n 0, 1) := by decide +kernel
theorem dX6_round_117 : decode cX6_round 117 = .ok (.getfield 150, 3) := by decide +kernel
theorem dX6_round_120 : decode cX6_round 120 = .ok (.ishl, 1) := by decide +kernel
theorem dX6_round_121 : decode cX6_round 121 = .ok (.iconst 1, 1) := by decide +kernel
theorem dX6_round_122 : decode cX6_round 122 = .ok (.isub, 1) := by decide +kernel
theorem dX6_round_123 : decode cX6_round 123 = .ok (.istore 4, 2) := by decide +kernel
theorem dX6_round_125 : decode cX6_round 125 = .ok (.aload_n 0, 1) := by decide +kernel
theorem dX6_round_126 : decode cX6_round 126 = .ok (.ldc 145, 2) := by decide +kernel
theorem dX6_round_128 : decode cX6_round 128 = .ok (.iload 4, 2) := by decide +kernel
theorem dX6_round_130 : decode cX6_round 130 = .ok (.invokevirtual 170, 3) := by decide +kernel
theorem dX6_round_133 : decode cX6_round 133 = .ok (.istore 5, 2) := by decide +kernel
theorem dX6_round_135 : decode cX6_round 135 = .ok (.aload_n 0, 1) := by decide +kernel
theorem dX6_round_136 : decode cX6_round 136 = .ok (.iload 5, 2) := by decide +kernel
theorem dX6_round_138 : decode cX6_round 138 = .ok (.invokevirtual 156, 3) := by decide +kernel
theorem dX6_round_141 : decode cX6_round 141 = .ok (.aload_n 0, 1) := by decide +kernel
theorem dX6_round_142 : decode cX6_round 142 = .ok (.getfield 69, 3) := by decide +kernel
theorem dX6_round_145 : decode cX6_round 145 = .ok (.bipush 8, 2) := by decide +kernel
theorem dX6_round_147 : decode cX6_round 147 = .ok (.iload 4, 2) := by decide +kernel
theorem dX6_round_149 : decode cX6_round 149 = .ok (.iconst 1, 1) := by decide +kernel
theorem dX6_round_150 : decode cX6_round 150 = .ok (.iload 5, 2) := by decide +kernel
theorem dX6_round_152 : decode cX6_round 152 = .ok (.ishl, 1) := by decide +kernel
theorem dX6_round_153 : decode cX6_round 153 = .ok (.iconst (-1), 1) := by decide +kernel
theorem dX6_round_154 : decode cX6_round 154 = .ok (.ixor, 1) := by decide +kernel
theorem dX6_round_155 : decode cX6_round 155 = .ok (.iand, 1) := by decide +kernel
theorem dX6_round_156 : decode cX6_round 156 = .ok (.imul, 1) := by decide +kernel
theorem dX6_round_157 : decode cX6_round 157 = .ok (.iload 5, 2) := by decide +kernel
theorem dX6_round_159 : decode cX6_round 159 = .ok (.iadd, 1) := by decide +kernel
theorem dX6_round_160 : decode cX6_round 160 = .ok (.iaload, 1) := by decide +kernel
theorem dX6_round_161 : decode cX6_round 161 = .ok (.iadd, 1) := by decide +kernel
theorem dX6_round_162 : decode cX6_round 162 = .ok (.ireturn, 1) := by decide +kernel
theorem dX6_stop_0 : decode cX6_stop 0 = .ok (.aload_n 0, 1) := by decide +kernel
theorem dX6_stop_1 : decode cX6_stop 1 = .ok (.iconst 0, 1) := by decide +kernel
theorem dX6_stop_2 : decode cX6_stop 2 = .ok (.putfield 90, 3) := by decide +kernel
theorem dX6_stop_5 : decode cX6_stop 5 = .ok (.aload_n 0, 1) := by decide +kernel
theorem dX6_stop_6 : decode cX6_stop 6 = .ok (.iload_n 1, 1) := by decide +kernel
theorem dX6_stop_7 : decode cX6_stop 7 = .ok (.invokevirtual 162, 3) := by decide +kernel
theorem dX6_stop_10 : decode cX6_stop 10 = .ok (.ifCond .ne 6, 3) := by decide +kernel
theorem dX6_stop_13 : decode cX6_stop 13 = .ok (.ldc 106, 2) := by decide +kernel
theorem dX6_stop_15 : decode cX6_stop 15 = .ok (.ireturn, 1) := by decide +kernel
theorem dX6_stop_16 : decode cX6_stop 16 = .ok (.iload_n 2, 1) := by decide +kernel
theorem dX6_stop_17 : decode cX6_stop 17 = .ok (.i2l, 1) := by decide +kernel
theorem dX6_stop_18 : decode cX6_stop 18 = .ok (.lconst 0, 1) := by decide +kernel
theorem dX6_stop_19 : decode cX6_stop 19 = .ok (.aload_n 0, 1) := by decide +kernel
theorem dX6_stop_20 : decode cX6_stop 20 = .ok (.getfield 150, 3) := by decide +kernel
theorem dX6_stop_23 : decode cX6_stop 23 = .ok (.iconst 1, 1) := by decide +kernel
theorem dX6_stop_24 : decode cX6_stop 24 = .ok (.isub, 1) := by decide +kernel
theorem dX6_stop_25 : decode cX6_stop 25 = .ok (.i2l, 1) := by decide +kernel
theorem dX6_stop_26 : decode cX6_stop 26 = .ok (.invokestatic 96, 3) := by decide +kernel
theorem dX6_stop_29 : decode cX6_stop 29 = .ok (.ifCond .ne 6, 3) := by decide +kernel
theorem dX6_stop_32 : decode cX6_stop 32 = .ok (.ldc 145, 2) := by decide +kernel
theorem dX6_stop_34 : decode cX6_stop 34 = .ok (.ireturn, 1) := by decide +kernel
theorem dX6_stop_35 : decode cX6_stop 35 = .ok (.aload_n 0, 1) := by decide +kernel
theorem dX6_stop_36 : decode cX6_stop 36 = .ok (.invokevirtual 167, 3) := by decide +kernel
theorem dX6_stop_39 : decode cX6_stop 39 = .ok (.iconst 1, 1) := by decide +kernel
theorem dX6_stop_40 : decode cX6_stop 40 = .ok (.aload_n 0, 1) := by decide +kernel
theorem dX6_stop_41 : decode cX6_stop 41 = .ok (.getfield 150, 3) := by decide +kernel
theorem dX6_stop_44 : decode cX6_stop 44 = .ok (.ishl, 1) := by decide +kernel
theorem dX6_stop_45 : decode cX6_stop 45 = .ok (.iconst 1, 1) := by decide +kernel
theorem dX6_stop_46 : decode cX6_stop 46 = .ok (.isub, 1) := by decide +kernel
theorem dX6_stop_47 : decode cX6_stop 47 = .ok (.istore_n 3, 1) := by decide +kernel
theorem dX6_stop_48 : decode cX6_stop 48 = .ok (.ldc 145, 2) := by decide +kernel
theorem dX6_stop_50 : decode cX6_stop 50 = .ok (.istore 4, 2) := by decide +kernel
theorem dX6_stop_52 : decode cX6_stop 52 = .ok (.iconst 0, 1) := by decide +kernel
theorem dX6_stop_53 : decode cX6_stop 53 = .ok (.istore 5, 2) := by decide +kernel
theorem dX6_stop_55 : decode cX6_stop 55 = .ok (.iload 5, 2) := by decide +kernel
theorem dX6_stop_57 : decode cX6_stop 57 = .ok (.iload_n 2, 1) := by decide +kernel
theorem dX6_stop_58 : decode cX6_stop 58 = .ok (.if_icmp .gt 27, 3) := by decide +kernel
theorem dX6_stop_61 : decode cX6_stop 61 = .ok (.aload_n 0, 1) := by decide +kernel
theorem dX6_stop_62 : decode cX6_stop 62 = .ok (.iload 4, 2) := by decide +kernel
theorem dX6_stop_64 : decode cX6_stop 64 = .ok (.iload_n 3, 1) := by decide +kernel
theorem dX6_stop_65 : decode cX6_stop 65 = .ok (.invokevirtual 170, 3) := by decide +kernel
theorem dX6_stop_68 : decode cX6_stop 68 = .ok (.istore 4, 2) := by decide +kernel
theorem dX6_stop_70 : decode cX6_stop 70 = .ok (.iload_n 3, 1) := by decide +kernel
theorem dX6_stop_71 : decode cX6_stop 71 = .ok (.iconst 1, 1) := by decide +kernel
theorem dX6_stop_72 : decode cX6_stop 72 = .ok (.iload 4, 2) := by decide +kernel
theorem dX6_stop_74 : decode cX6_stop 74 = .ok (.ishl, 1) := by decide +kernel
theorem dX6_stop_75 : decode cX6_stop 75 = .ok (.iconst (-1), 1) := by decide +kernel
theorem dX6_stop_76 : decode cX6_stop 76 = .ok (.ixor, 1) := by decide +kernel
theorem dX6_stop_77 : decode cX6_stop 77 = .ok (.iand, 1) := by decide +kernel
theorem dX6_stop_78 : decode cX6_stop 78 = .ok (.istore_n 3, 1) := by decide +kernel
theorem dX6_stop_79 : decode cX6_stop 79 = .ok (.iinc 5 1, 3) := by decide +kernel
theorem dX6_stop_82 : decode cX6_stop 82 = .ok (.goto (-27), 3) := by decide +kernel
theorem dX6_stop_85 : decode cX6_stop 85 = .ok (.aload_n 0, 1) := by decide +kernel
theorem dX6_stop_86 : decode cX6_stop 86 = .ok (.getfield 66, 3) := by decide +kernel
theorem dX6_stop_89 : decode cX6_stop 89 = .ok (.iload 4, 2) := by decide +kernel
theorem dX6_stop_91 : decode cX6_stop 91 = .ok (.iaload, 1) := by decide +kernel
theorem dX6_stop_92 : decode cX6_stop 92 = .ok (.ireturn, 1) := by decide +kernel
theorem dX6_most_0 : decode cX6_most 0 = .ok (.iload_n 0, 1) := by decide +kernel
theorem dX6_most_1 : decode cX6_most 1 = .ok (.iload_n 1, 1) := by decide +kernel
theorem dX6_most_2 : decode cX6_most 2 = .ok (.if_icmp .le 7, 3) := by decide +kernel
theorem dX6_most_5 : decode cX6_most 5 = .ok (.iload_n 0, 1) := by decide +kernel
theorem dX6_most_6 : decode cX6_most 6 = .ok (.goto 4, 3) := by decide +kernel
theorem dX6_most_9 : decode cX6_most 9 = .ok (.iload_n 1, 1) := by decide +kernel
theorem dX6_most_10 : decode cX6_most 10 = .ok (.ireturn, 1) := by decide +kernel
theorem dX6_least_0 : decode cX6_least 0 = .ok (.iload_n 0, 1) := by decide +kernel
theorem dX6_least_1 : decode cX6_least 1 = .ok (.iload_n 1, 1) := by decide +kernel
theorem dX6_least_2 : decode cX6_least 2 = .ok (.if_icmp .ge 7, 3) := by decide +kernel
theorem dX6_least_5 : decode cX6_least 5 = .ok (.iload_n 0, 1) := by decide +kernel
theorem dX6_least_6 : decode cX6_least 6 = .ok (.goto 4, 3) := by decide +kernel
theorem dX6_least_9 : decode cX6_least 9 = .ok (.iload_n 1, 1) := by decide +kernel
theorem dX6_least_10 : decode cX6_least 10 = .ok (.ireturn, 1) := by decide +kernel
theorem dX6_roundedUp_0 : decode cX6_roundedUp 0 = .ok (.iload_n 0, 1) := by decide +kernel
theorem dX6_roundedUp_1 : decode cX6_roundedUp 1 = .ok (.ifCond .gt 7, 3) := by decide +kernel
theorem dX6_roundedUp_4 : decode cX6_roundedUp 4 = .ok (.iconst 0, 1) := by decide +kernel
theorem dX6_roundedUp_5 : decode cX6_roundedUp 5 = .ok (.goto 10, 3) := by decide +kernel
theorem dX6_roundedUp_8 : decode cX6_roundedUp 8 = .ok (.iload_n 0, 1) := by decide +kernel
theorem dX6_roundedUp_9 : decode cX6_roundedUp 9 = .ok (.iload_n 1, 1) := by decide +kernel
theorem dX6_roundedUp_10 : decode cX6_roundedUp 10 = .ok (.iadd, 1) := by decide +kernel
theorem dX6_roundedUp_11 : decode cX6_roundedUp 11 = .ok (.iconst 1, 1) := by decide +kernel
theorem dX6_roundedUp_12 : decode cX6_roundedUp 12 = .ok (.isub, 1) := by decide +kernel
theorem dX6_roundedUp_13 : decode cX6_roundedUp 13 = .ok (.iload_n 1, 1) := by decide +kernel
theorem dX6_roundedUp_14 : decode cX6_roundedUp 14 = .ok (.idiv, 1) := by decide +kernel
theorem dX6_roundedUp_15 : decode cX6_roundedUp 15 = .ok (.ireturn, 1) := by decide +kernel
theorem dX6_cut_0 : decode cX6_cut 0 = .ok (.iload_n 0, 1) := by decide +kernel
theorem dX6_cut_1 : decode cX6_cut 1 = .ok (.ifCond .gt 7, 3) := by decide +kernel
theorem dX6_cut_4 : decode cX6_cut 4 = .ok (.iconst 0, 1) := by decide +kernel
theorem dX6_cut_5 : decode cX6_cut 5 = .ok (.goto 6, 3) := by decide +kernel
theorem dX6_cut_8 : decode cX6_cut 8 = .ok (.iload_n 0, 1) := by decide +kernel
theorem dX6_cut_9 : decode cX6_cut 9 = .ok (.iload_n 1, 1) := by decide +kernel
theorem dX6_cut_10 : decode cX6_cut 10 = .ok (.idiv, 1) := by decide +kernel
theorem dX6_cut_11 : decode cX6_cut 11 = .ok (.ireturn, 1) := by decide +kernel
theorem dX6_makeNarrower_0 : decode cX6_makeNarrower 0 = .ok (.aload_n 0, 1) := by decide +kernel
theorem dX6_makeNarrower_1 : decode cX6_makeNarrower 1 = .ok (.getfield 38, 3) := by decide +kernel
theorem dX6_makeNarrower_4 : decode cX6_makeNarrower 4 = .ok (.iload_n 1, 1) := by decide +kernel
theorem dX6_makeNarrower_5 : decode cX6_makeNarrower 5 = .ok (.iaload, 1) := by decide +kernel
theorem dX6_makeNarrower_6 : decode cX6_makeNarrower 6 = .ok (.istore_n 3, 1) := by decide +kernel
theorem dX6_makeNarrower_7 : decode cX6_makeNarrower 7 = .ok (.aload_n 0, 1) := by decide +kernel
theorem dX6_makeNarrower_8 : decode cX6_makeNarrower 8 = .ok (.getfield 41, 3) := by decide +kernel
theorem dX6_makeNarrower_11 : decode cX6_makeNarrower 11 = .ok (.iload_n 1, 1) := by decide +kernel
theorem dX6_makeNarrower_12 : decode cX6_makeNarrower 12 = .ok (.iaload, 1) := by decide +kernel
theorem dX6_makeNarrower_13 : decode cX6_makeNarrower 13 = .ok (.istore 4, 2) := by decide +kernel
theorem dX6_makeNarrower_15 : decode cX6_makeNarrower 15 = .ok (.aload_n 0, 1) := by decide +kernel
theorem dX6_makeNarrower_16 : decode cX6_makeNarrower 16 = .ok (.getfield 19, 3) := by decide +kernel
theorem dX6_makeNarrower_19 : decode cX6_makeNarrower 19 = .ok (.iconst 4, 1) := by decide +kernel
theorem dX6_makeNarrower_20 : decode cX6_makeNarrower 20 = .ok (.iload_n 1, 1) := by decide +kernel
theorem dX6_makeNarrower_21 : decode cX6_makeNarrower 21 = .ok (.imul, 1) := by decide +kernel
theorem dX6_makeNarrower_22 : decode cX6_makeNarrower 22 = .ok (.iaload, 1) := by decide +kernel
theorem dX6_makeNarrower_23 : decode cX6_makeNarrower 23 = .ok (.istore 5, 2) := by decide +kernel
theorem dX6_makeNarrower_25 : decode cX6_makeNarrower 25 = .ok (.aload_n 0, 1) := by decide +kernel
theorem dX6_makeNarrower_26 : decode cX6_makeNarrower 26 = .ok (.getfield 19, 3) := by decide +kernel
theorem dX6_makeNarrower_29 : decode cX6_makeNarrower 29 = .ok (.iconst 4, 1) := by decide +kernel
theorem dX6_makeNarrower_30 : decode cX6_makeNarrower 30 = .ok (.iload_n 1, 1) := by decide +kernel
theorem dX6_makeNarrower_31 : decode cX6_makeNarrower 31 = .ok (.imul, 1) := by decide +kernel
theorem dX6_makeNarrower_32 : decode cX6_makeNarrower 32 = .ok (.iconst 1, 1) := by decide +kernel
theorem dX6_makeNarrower_33 : decode cX6_makeNarrower 33 = .ok (.iadd, 1) := by decide +kernel
theorem dX6_makeNarrower_34 : decode cX6_makeNarrower 34 = .ok (.iaload, 1) := by decide +kernel
theorem dX6_makeNarrower_35 : decode cX6_makeNarrower 35 = .ok (.istore 6, 2) := by decide +kernel
theorem dX6_makeNarrower_37 : decode cX6_makeNarrower 37 = .ok (.aload_n 0, 1) := by decide +kernel
theorem dX6_makeNarrower_38 : decode cX6_makeNarrower 38 = .ok (.getfield 19, 3) := by decide +kernel
theorem dX6_makeNarrower_41 : decode cX6_makeNarrower 41 = .ok (.iconst 4, 1) := by decide +kernel
theorem dX6_makeNarrower_42 : decode cX6_makeNarrower 42 = .ok (.iload_n 1, 1) := by decide +kernel
theorem dX6_makeNarrower_43 : decode cX6_makeNarrower 43 = .ok (.imul, 1) := by decide +kernel
theorem dX6_makeNarrower_44 : decode cX6_makeNarrower 44 = .ok (.iconst 2, 1) := by decide +kernel
theorem dX6_makeNarrower_45 : decode cX6_makeNarrower 45 = .ok (.iadd, 1) := by decide +kernel
theorem dX6_makeNarrower_46 : decode cX6_makeNarrower 46 = .ok (.iaload, 1) := by decide +kernel
theorem dX6_makeNarrower_47 : decode cX6_makeNarrower 47 = .ok (.istore 7, 2) := by decide +kernel
theorem dX6_makeNarrower_49 : decode cX6_makeNarrower 49 = .ok (.aload_n 0, 1) := by decide +kernel
theorem dX6_makeNarrower_50 : decode cX6_makeNarrower 50 = .ok (.getfield 19, 3) := by decide +kernel
theorem dX6_makeNarrower_53 : decode cX6_makeNarrower 53 = .ok (.iconst 4, 1) := by decide +kernel
theorem dX6_makeNarrower_54 : decode cX6_makeNarrower 54 = .ok (.iload_n 1, 1) := by decide +kernel
theorem dX6_makeNarrower_55 : decode cX6_makeNarrower 55 = .ok (.imul, 1) := by decide +kernel
theorem dX6_makeNarrower_56 : decode cX6_makeNarrower 56 = .ok (.iconst 3, 1) := by decide +kernel
theorem dX6_makeNarrower_57 : decode cX6_makeNarrower 57 = .ok (.iadd, 1) := by decide +kernel
theorem dX6_makeNarrower_58 : decode cX6_makeNarrower 58 = .ok (.iaload, 1) := by decide +kernel
theorem dX6_makeNarrower_59 : decode cX6_makeNarrower 59 = .ok (.istore 8, 2) := by decide +kernel
theorem dX6_makeNarrower_61 : decode cX6_makeNarrower 61 = .ok (.iload 5, 2) := by decide +kernel
theorem dX6_makeNarrower_63 : decode cX6_makeNarrower 63 = .ok (.iload 7, 2) := by decide +kernel
theorem dX6_makeNarrower_65 : decode cX6_makeNarrower 65 = .ok (.iload_n 2, 1) := by decide +kernel
theorem dX6_makeNarrower_66 : decode cX6_makeNarrower 66 = .ok (.iload 4, 2) := by decide +kernel
theorem dX6_makeNarrower_68 : decode cX6_makeNarrower 68 = .ok (.iload 6, 2) := by decide +kernel
theorem dX6_makeNarrower_70 : decode cX6_makeNarrower 70 = .ok (.imul, 1) := by decide +kernel
theorem dX6_makeNarrower_71 : decode cX6_makeNarrower 71 = .ok (.isub, 1) := by decide +kernel
theorem dX6_makeNarrower_72 : decode cX6_makeNarrower 72 = .ok (.iload_n 3, 1) := by decide +kernel
theorem dX6_makeNarrower_73 : decode cX6_makeNarrower 73 = .ok (.invokestatic 173, 3) := by decide +kernel
theorem dX6_makeNarrower_76 : decode cX6_makeNarrower 76 = .ok (.invokestatic 176, 3) := by decide +kernel
theorem dX6_makeNarrower_79 : decode cX6_makeNarrower 79 = .ok (.invokestatic 178, 3) := by decide +kernel
theorem dX6_makeNarrower_82 : decode cX6_makeNarrower 82 = .ok (.istore 7, 2) := by decide +kernel
theorem dX6_makeNarrower_84 : decode cX6_makeNarrower 84 = .ok (.iload 4, 2) := by decide +kernel
theorem dX6_makeNarrower_86 : decode cX6_makeNarrower 86 = .ok (.ifCond .le 26, 3) := by decide +kernel
theorem dX6_makeNarrower_89 : decode cX6_makeNarrower 89 = .ok (.iload 6, 2) := by decide +kernel
theorem dX6_makeNarrower_91 : decode cX6_makeNarrower 91 = .ok (.iload 8, 2) := by decide +kernel
theorem dX6_makeNarrower_93 : decode cX6_makeNarrower 93 = .ok (.iload_n 2, 1) := by decide +kernel
theorem dX6_makeNarrower_94 : decode cX6_makeNarrower 94 = .ok (.iload_n 3, 1) := by decide +kernel
theorem dX6_makeNarrower_95 : decode cX6_makeNarrower 95 = .ok (.iload 5, 2) := by decide +kernel
theorem dX6_makeNarrower_97 : decode cX6_makeNarrower 97 = .ok (.imul, 1) := by decide +kernel
theorem dX6_makeNarrower_98 : decode cX6_makeNarrower 98 = .ok (.isub, 1) := by decide +kernel
theorem dX6_makeNarrower_99 : decode cX6_makeNarrower 99 = .ok (.iload 4, 2) := by decide +kernel
theorem dX6_makeNarrower_101 : decode cX6_makeNarrower 101 = .ok (.invokestatic 173, 3) := by decide +kernel
theorem dX6_makeNarrower_104 : decode cX6_makeNarrower 104 = .ok (.invokestatic 176, 3) := by decide +kernel
theorem dX6_makeNarrower_107 : decode cX6_makeNarrower 107 = .ok (.invokestatic 178, 3) := by decide +kernel
theorem dX6_makeNarrower_110 : decode cX6_makeNarrower 110 = .ok (.istore 8, 2) := by decide +kernel
theorem dX6_makeNarrower_112 : decode cX6_makeNarrower 112 = .ok (.iload 7, 2) := by decide +kernel
theorem dX6_makeNarrower_114 : decode cX6_makeNarrower 114 = .ok (.iload 5, 2) := by decide +kernel
theorem dX6_makeNarrower_116 : decode cX6_makeNarrower 116 = .ok (.iload_n 2, 1) := by decide +kernel
theorem dX6_makeNarrower_117 : decode cX6_makeNarrower 117 = .ok (.iload 4, 2) := by decide +kernel
theorem dX6_makeNarrower_119 : decode cX6_makeNarrower 119 = .ok (.iload 8, 2) := by decide +kernel
theorem dX6_makeNarrower_121 : decode cX6_makeNarrower 121 = .ok (.imul, 1) := by decide +kernel
theorem dX6_makeNarrower_122 : decode cX6_makeNarrower 122 = .ok (.isub, 1) := by decide +kernel
theorem dX6_makeNarrower_123 : decode cX6_makeNarrower 123 = .ok (.iload_n 3, 1) := by decide +kernel
theorem dX6_makeNarrower_124 : decode cX6_makeNarrower 124 = .ok (.invokestatic 181, 3) := by decide +kernel
theorem dX6_makeNarrower_127 : decode cX6_makeNarrower 127 = .ok (.invokestatic 178, 3) := by decide +kernel
theorem dX6_makeNarrower_130 : decode cX6_makeNarrower 130 = .ok (.invokestatic 176, 3) := by decide +kernel
theorem dX6_makeNarrower_133 : decode cX6_makeNarrower 133 = .ok (.istore 5, 2) := by decide +kernel
theorem dX6_makeNarrower_135 : decode cX6_makeNarrower 135 = .ok (.iload 4, 2) := by decide +kernel
theorem dX6_makeNarrower_137 : decode cX6_makeNarrower 137 = .ok (.ifCond .le 26, 3) := by decide +kernel
theorem dX6_makeNarrower_140 : decode cX6_makeNarrower 140 = .ok (.iload 8, 2) := by decide +kernel
theorem dX6_makeNarrower_142 : decode cX6_makeNarrower 142 = .ok (.iload 6, 2) := by decide +kernel
theorem dX6_makeNarrower_144 : decode cX6_makeNarrower 144 = .ok (.iload_n 2, 1) := by decide +kernel
theorem dX6_makeNarrower_145 : decode cX6_makeNarrower 145 = .ok (.iload_n 3, 1) := by decide +kernel
theorem dX6_makeNarrower_146 : decode cX6_makeNarrower 146 = .ok (.iload 7, 2) := by decide +kernel
theorem dX6_makeNarrower_148 : decode cX6_makeNarrower 148 = .ok (.imul, 1) := by decide +kernel
theorem dX6_makeNarrower_149 : decode cX6_makeNarrower 149 = .ok (.isub, 1) := by decide +kernel
theorem dX6_makeNarrower_150 : decode cX6_makeNarrower 150 = .ok (.iload 4, 2) := by decide +kernel
theorem dX6_makeNarrower_152 : decode cX6_makeNarrower 152 = .ok (.invokestatic 181, 3) := by decide +kernel
theorem dX6_makeNarrower_155 : decode cX6_makeNarrower 155 = .ok (.invokestatic 178, 3) := by decide +kernel
theorem dX6_makeNarrower_158 : decode cX6_makeNarrower 158 = .ok (.invokestatic 176, 3) := by decide +kernel
theorem dX6_makeNarrower_161 : decode cX6_makeNarrower 161 = .ok (.istore 6, 2) := by decide +kernel
theorem dX6_makeNarrower_163 : decode cX6_makeNarrower 163 = .ok (.aload_n 0, 1) := by decide +kernel
theorem dX6_makeNarrower_164 : decode cX6_makeNarrower 164 = .ok (.getfield 19, 3) := by decide +kernel
theorem dX6_makeNarrower_167 : decode cX6_makeNarrower 167 = .ok (.iconst 4, 1) := by decide +kernel
theorem dX6_makeNarrower_168 : decode cX6_makeNarrower 168 = .ok (.iload_n 1, 1) := by decide +kernel
theorem dX6_makeNarrower_169 : decode cX6_makeNarrower 169 = .ok (.imul, 1) := by decide +kernel
theorem dX6_makeNarrower_170 : decode cX6_makeNarrower 170 = .ok (.iload 5, 2) := by decide +kernel
theorem dX6_makeNarrower_172 : decode cX6_makeNarrower 172 = .ok (.iastore, 1) := by decide +kernel
theorem dX6_makeNarrower_173 : decode cX6_makeNarrower 173 = .ok (.aload_n 0, 1) := by decide +kernel
theorem dX6_makeNarrower_174 : decode cX6_makeNarrower 174 = .ok (.getfield 19, 3) := by decide +kernel
theorem dX6_makeNarrower_177 : decode cX6_makeNarrower 177 = .ok (.iconst 4, 1) := by decide +kernel
theorem dX6_makeNarrower_178 : decode cX6_makeNarrower 178 = .ok (.iload_n 1, 1) := by decide +kernel
theorem dX6_makeNarrower_179 : decode cX6_makeNarrower 179 = .ok (.imul, 1) := by decide +kernel
theorem dX6_makeNarrower_180 : decode cX6_makeNarrower 180 = .ok (.iconst 1, 1) := by decide +kernel
theorem dX6_makeNarrower_181 : decode cX6_makeNarrower 181 = .ok (.iadd, 1) := by decide +kernel
theorem dX6_makeNarrower_182 : decode cX6_makeNarrower 182 = .ok (.iload 6, 2) := by decide +kernel
theorem dX6_makeNarrower_184 : decode cX6_makeNarrower 184 = .ok (.iastore, 1) := by decide +kernel
theorem dX6_makeNarrower_185 : decode cX6_makeNarrower 185 = .ok (.aload_n 0, 1) := by decide +kernel
theorem dX6_makeNarrower_186 : decode cX6_makeNarrower 186 = .ok (.getfield 19, 3) := by decide +kernel
theorem dX6_makeNarrower_189 : decode cX6_makeNarrower 189 = .ok (.iconst 4, 1) := by decide +kernel
theorem dX6_makeNarrower_190 : decode cX6_makeNarrower 190 = .ok (.iload_n 1, 1) := by decide +kernel
theorem dX6_makeNarrower_191 : decode cX6_makeNarrower 191 = .ok (.imul, 1) := by decide +kernel
theorem dX6_makeNarrower_192 : decode cX6_makeNarrower 192 = .ok (.iconst 2, 1) := by decide +kernel
theorem dX6_makeNarrower_193 : decode cX6_makeNarrower 193 = .ok (.iadd, 1) := by decide +kernel
theorem dX6_makeNarrower_194 : decode cX6_makeNarrower 194 = .ok (.iload 7, 2) := by decide +kernel
theorem dX6_makeNarrower_196 : decode cX6_makeNarrower 196 = .ok (.iastore, 1) := by decide +kernel
theorem dX6_makeNarrower_197 : decode cX6_makeNarrower 197 = .ok (.aload_n 0, 1) := by decide +kernel
theorem dX6_makeNarrower_198 : decode cX6_makeNarrower 198 = .ok (.getfield 19, 3) := by decide +kernel
theorem dX6_makeNarrower_201 : decode cX6_makeNarrower 201 = .ok (.iconst 4, 1) := by decide +kernel
theorem dX6_makeNarrower_202 : decode cX6_makeNarrower 202 = .ok (.iload_n 1, 1) := by decide +kernel
theorem dX6_makeNarrower_203 : decode cX6_makeNarrower 203 = .ok (.imul, 1) := by decide +kernel
theorem dX6_makeNarrower_204 : decode cX6_makeNarrower 204 = .ok (.iconst 3, 1) := by decide +kernel
theorem dX6_makeNarrower_205 : decode cX6_makeNarrower 205 = .ok (.iadd, 1) := by decide +kernel
theorem dX6_makeNarrower_206 : decode cX6_makeNarrower 206 = .ok (.iload 8, 2) := by decide +kernel
theorem dX6_makeNarrower_208 : decode cX6_makeNarrower 208 = .ok (.iastore, 1) := by decide +kernel
theorem dX6_makeNarrower_209 : decode cX6_makeNarrower 209 = .ok (.return_, 1) := by decide +kernel
theorem dX6_cost_0 : decode cX6_cost 0 = .ok (.aload_n 0, 1) := by decide +kernel
theorem dX6_cost_1 : decode cX6_cost 1 = .ok (.getfield 44, 3) := by decide +kernel
theorem dX6_cost_4 : decode cX6_cost 4 = .ok (.iload_n 1, 1) := by decide +kernel
theorem dX6_cost_5 : decode cX6_cost 5 = .ok (.iaload, 1) := by decide +kernel
theorem dX6_cost_6 : decode cX6_cost 6 = .ok (.iconst 1, 1) := by decide +kernel
theorem dX6_cost_7 : decode cX6_cost 7 = .ok (.if_icmp .ne 19, 3) := by decide +kernel
theorem dX6_cost_10 : decode cX6_cost 10 = .ok (.iload_n 2, 1) := by decide +kernel
theorem dX6_cost_11 : decode cX6_cost 11 = .ok (.aload_n 0, 1) := by decide +kernel
theorem dX6_cost_12 : decode cX6_cost 12 = .ok (.getfield 63, 3) := by decide +kernel
theorem dX6_cost_15 : decode cX6_cost 15 = .ok (.aload_n 0, 1) := by decide +kernel
theorem dX6_cost_16 : decode cX6_cost 16 = .ok (.getfield 50, 3) := by decide +kernel
theorem dX6_cost_19 : decode cX6_cost 19 = .ok (.iload_n 1, 1) := by decide +kernel
theorem dX6_cost_20 : decode cX6_cost 20 = .ok (.iaload, 1) := by decide +kernel
theorem dX6_cost_21 : decode cX6_cost 21 = .ok (.invokestatic 176, 3) := by decide +kernel
theorem dX6_cost_24 : decode cX6_cost 24 = .ok (.imul, 1) := by decide +kernel
theorem dX6_cost_25 : decode cX6_cost 25 = .ok (.ireturn, 1) := by decide +kernel
theorem dX6_cost_26 : decode cX6_cost 26 = .ok (.aload_n 0, 1) := by decide +kernel
theorem dX6_cost_27 : decode cX6_cost 27 = .ok (.getfield 44, 3) := by decide +kernel
theorem dX6_cost_30 : decode cX6_cost 30 = .ok (.iload_n 1, 1) := by decide +kernel
theorem dX6_cost_31 : decode cX6_cost 31 = .ok (.iaload, 1) := by decide +kernel
theorem dX6_cost_32 : decode cX6_cost 32 = .ok (.iconst 2, 1) := by decide +kernel
theorem dX6_cost_33 : decode cX6_cost 33 = .ok (.if_icmp .ne 16, 3) := by decide +kernel
theorem dX6_cost_36 : decode cX6_cost 36 = .ok (.iload_n 2, 1) := by decide +kernel
theorem dX6_cost_37 : decode cX6_cost 37 = .ok (.aload_n 0, 1) := by decide +kernel
theorem dX6_cost_38 : decode cX6_cost 38 = .ok (.getfield 47, 3) := by decide +kernel
theorem dX6_cost_41 : decode cX6_cost 41 = .ok (.iload_n 1, 1) := by decide +kernel
theorem dX6_cost_42 : decode cX6_cost 42 = .ok (.iaload, 1) := by decide +kernel
theorem dX6_cost_43 : decode cX6_cost 43 = .ok (.invokestatic 176, 3) := by decide +kernel
theorem dX6_cost_46 : decode cX6_cost 46 = .ok (.goto 4, 3) := by decide +kernel
theorem dX6_cost_49 : decode cX6_cost 49 = .ok (.iconst 0, 1) := by decide +kernel
theorem dX6_cost_50 : decode cX6_cost 50 = .ok (.istore_n 3, 1) := by decide +kernel
theorem dX6_cost_51 : decode cX6_cost 51 = .ok (.iload_n 3, 1) := by decide +kernel
theorem dX6_cost_52 : decode cX6_cost 52 = .ok (.aload_n 0, 1) := by decide +kernel
theorem dX6_cost_53 : decode cX6_cost 53 = .ok (.getfield 50, 3) := by decide +kernel
theorem dX6_cost_56 : decode cX6_cost 56 = .ok (.iload_n 1, 1) := by decide +kernel
theorem dX6_cost_57 : decode cX6_cost 57 = .ok (.iaload, 1) := by decide +kernel
theorem dX6_cost_58 : decode cX6_cost 58 = .ok (.imul, 1) := by decide +kernel
theorem dX6_cost_59 : decode cX6_cost 59 = .ok (.iload_n 2, 1) := by decide +kernel
theorem dX6_cost_60 : decode cX6_cost 60 = .ok (.iload_n 3, 1) := by decide +kernel
theorem dX6_cost_61 : decode cX6_cost 61 = .ok (.isub, 1) := by decide +kernel
theorem dX6_cost_62 : decode cX6_cost 62 = .ok (.aload_n 0, 1) := by decide +kernel
theorem dX6_cost_63 : decode cX6_cost 63 = .ok (.getfield 63, 3) := by decide +kernel
theorem dX6_cost_66 : decode cX6_cost 66 = .ok (.imul, 1) := by decide +kernel
theorem dX6_cost_67 : decode cX6_cost 67 = .ok (.iadd, 1) := by decide +kernel
theorem dX6_cost_68 : decode cX6_cost 68 = .ok (.ireturn, 1) := by decide +kernel
theorem dX6_fill_0 : decode cX6_fill 0 = .ok (.aload_n 0, 1) := by decide +kernel
theorem dX6_fill_1 : decode cX6_fill 1 = .ok (.iconst 0, 1) := by decide +kernel
theorem dX6_fill_2 : decode cX6_fill 2 = .ok (.putfield 90, 3) := by decide +kernel
theorem dX6_fill_5 : decode cX6_fill 5 = .ok (.aload_n 0, 1) := by decide +kernel
theorem dX6_fill_6 : decode cX6_fill 6 = .ok (.iload_n 1, 1) := by decide +kernel
theorem dX6_fill_7 : decode cX6_fill 7 = .ok (.invokevirtual 108, 3) := by decide +kernel
theorem dX6_fill_10 : decode cX6_fill 10 = .ok (.ifCond .eq 19, 3) := by decide +kernel
theorem dX6_fill_13 : decode cX6_fill 13 = .ok (.iload_n 2, 1) := by decide +kernel
theorem dX6_fill_14 : decode cX6_fill 14 = .ok (.i2l, 1) := by decide +kernel
theorem dX6_fill_15 : decode cX6_fill 15 = .ok (.lconst 0, 1) := by decide +kernel
theorem dX6_fill_16 : decode cX6_fill 16 = .ok (.aload_n 0, 1) := by decide +kernel
theorem dX6_fill_17 : decode cX6_fill 17 = .ok (.getfield 16, 3) := by decide +kernel
theorem dX6_fill_20 : decode cX6_fill 20 = .ok (.iload_n 1, 1) := by decide +kernel
theorem dX6_fill_21 : decode cX6_fill 21 = .ok (.iaload, 1) := by decide +kernel
theorem dX6_fill_22 : decode cX6_fill 22 = .ok (.i2l, 1) := by decide +kernel
theorem dX6_fill_23 : decode cX6_fill 23 = .ok (.invokestatic 96, 3) := by decide +kernel
theorem dX6_fill_26 : decode cX6_fill 26 = .ok (.ifCond .ne 6, 3) := by decide +kernel
theorem dX6_fill_29 : decode cX6_fill 29 = .ok (.ldc 106, 2) := by decide +kernel
theorem dX6_fill_31 : decode cX6_fill 31 = .ok (.ireturn, 1) := by decide +kernel
theorem dX6_fill_32 : decode cX6_fill 32 = .ok (.iload_n 2, 1) := by decide +kernel
theorem dX6_fill_33 : decode cX6_fill 33 = .ok (.aload_n 0, 1) := by decide +kernel
theorem dX6_fill_34 : decode cX6_fill 34 = .ok (.getfield 134, 3) := by decide +kernel
theorem dX6_fill_37 : decode cX6_fill 37 = .ok (.if_icmp .le 6, 3) := by decide +kernel
theorem dX6_fill_40 : decode cX6_fill 40 = .ok (.ldc 112, 2) := by decide +kernel
theorem dX6_fill_42 : decode cX6_fill 42 = .ok (.ireturn, 1) := by decide +kernel
theorem dX6_fill_43 : decode cX6_fill 43 = .ok (.aload_n 0, 1) := by decide +kernel
theorem dX6_fill_44 : decode cX6_fill 44 = .ok (.iload_n 1, 1) := by decide +kernel
theorem dX6_fill_45 : decode cX6_fill 45 = .ok (.iload_n 2, 1) := by decide +kernel
theorem dX6_fill_46 : decode cX6_fill 46 = .ok (.invokevirtual 184, 3) := by decide +kernel
theorem dX6_fill_49 : decode cX6_fill 49 = .ok (.istore_n 3, 1) := by decide +kernel
theorem dX6_fill_50 : decode cX6_fill 50 = .ok (.aload_n 0, 1) := by decide +kernel
theorem dX6_fill_51 : decode cX6_fill 51 = .ok (.getfield 44, 3) := by decide +kernel
theorem dX6_fill_54 : decode cX6_fill 54 = .ok (.iload_n 1, 1) := by decide +kernel
theorem dX6_fill_55 : decode cX6_fill 55 = .ok (.iaload, 1) := by decide +kernel
theorem dX6_fill_56 : decode cX6_fill 56 = .ok (.iconst 2, 1) := by decide +kernel
theorem dX6_fill_57 : decode cX6_fill 57 = .ok (.if_icmp .ne 22, 3) := by decide +kernel
theorem dX6_fill_60 : decode cX6_fill 60 = .ok (.aload_n 0, 1) := by decide +kernel
theorem dX6_fill_61 : decode cX6_fill 61 = .ok (.getfield 47, 3) := by decide +kernel
theorem dX6_fill_64 : decode cX6_fill 64 = .ok (.iload_n 1, 1) := by decide +kernel
theorem dX6_fill_65 : decode cX6_fill 65 = .ok (.dup2, 1) := by decide +kernel
theorem dX6_fill_66 : decode cX6_fill 66 = .ok (.iaload, 1) := by decide +kernel
theorem dX6_fill_67 : decode cX6_fill 67 = .ok (.iload_n 2, 1) := by decide +kernel
theorem dX6_fill_68 : decode cX6_fill 68 = .ok (.aload_n 0, 1) := by decide +kernel
theorem dX6_fill_69 : decode cX6_fill 69 = .ok (.getfield 47, 3) := by decide +kernel
theorem dX6_fill_72 : decode cX6_fill 72 = .ok (.iload_n 1, 1) := by decide +kernel
theorem dX6_fill_73 : decode cX6_fill 73 = .ok (.iaload, 1) := by decide +kernel
theorem dX6_fill_74 : decode cX6_fill 74 = .ok (.invokestatic 176, 3) := by decide +kernel
theorem dX6_fill_77 : decode cX6_fill 77 = .ok (.isub, 1) := by decide +kernel
theorem dX6_fill_78 : decode cX6_fill 78 = .ok (.iastore, 1) := by decide +kernel
theorem dX6_fill_79 : decode cX6_fill 79 = .ok (.aload_n 0, 1) := by decide +kernel
theorem dX6_fill_80 : decode cX6_fill 80 = .ok (.dup, 1) := by decide +kernel
theorem dX6_fill_81 : decode cX6_fill 81 = .ok (.getfield 134, 3) := by decide +kernel
theorem dX6_fill_84 : decode cX6_fill 84 = .ok (.iload_n 2, 1) := by decide +kernel
theorem dX6_fill_85 : decode cX6_fill 85 = .ok (.isub, 1) := by decide +kernel
theorem dX6_fill_86 : decode cX6_fill 86 = .ok (.putfield 134, 3) := by decide +kernel
theorem dX6_fill_89 : decode cX6_fill 89 = .ok (.aload_n 0, 1) := by decide +kernel
theorem dX6_fill_90 : decode cX6_fill 90 = .ok (.dup, 1) := by decide +kernel
theorem dX6_fill_91 : decode cX6_fill 91 = .ok (.getfield 187, 3) := by decide +kernel
theorem dX6_fill_94 : decode cX6_fill 94 = .ok (.iload_n 2, 1) := by decide +kernel
theorem dX6_fill_95 : decode cX6_fill 95 = .ok (.i2l, 1) := by decide +kernel
theorem dX6_fill_96 : decode cX6_fill 96 = .ok (.ladd, 1) := by decide +kernel
theorem dX6_fill_97 : decode cX6_fill 97 = .ok (.putfield 187, 3) := by decide +kernel
theorem dX6_fill_100 : decode cX6_fill 100 = .ok (.aload_n 0, 1) := by decide +kernel
theorem dX6_fill_101 : decode cX6_fill 101 = .ok (.dup, 1) := by decide +kernel
theorem dX6_fill_102 : decode cX6_fill 102 = .ok (.getfield 190, 3) := by decide +kernel
theorem dX6_fill_105 : decode cX6_fill 105 = .ok (.iload_n 3, 1) := by decide +kernel
theorem dX6_fill_106 : decode cX6_fill 106 = .ok (.i2l, 1) := by decide +kernel
theorem dX6_fill_107 : decode cX6_fill 107 = .ok (.ladd, 1) := by decide +kernel
theorem dX6_fill_108 : decode cX6_fill 108 = .ok (.putfield 190, 3) := by decide +kernel
theorem dX6_fill_111 : decode cX6_fill 111 = .ok (.aload_n 0, 1) := by decide +kernel
theorem dX6_fill_112 : decode cX6_fill 112 = .ok (.getfield 38, 3) := by decide +kernel
theorem dX6_fill_115 : decode cX6_fill 115 = .ok (.iload_n 1, 1) := by decide +kernel
theorem dX6_fill_116 : decode cX6_fill 116 = .ok (.iaload, 1) := by decide +kernel
theorem dX6_fill_117 : decode cX6_fill 117 = .ok (.istore 4, 2) := by decide +kernel
theorem dX6_fill_119 : decode cX6_fill 119 = .ok (.aload_n 0, 1) := by decide +kernel
theorem dX6_fill_120 : decode cX6_fill 120 = .ok (.getfield 41, 3) := by decide +kernel
theorem dX6_fill_123 : decode cX6_fill 123 = .ok (.iload_n 1, 1) := by decide +kernel
theorem dX6_fill_124 : decode cX6_fill 124 = .ok (.iaload, 1) := by decide +kernel
theorem dX6_fill_125 : decode cX6_fill 125 = .ok (.istore 5, 2) := by decide +kernel
theorem dX6_fill_127 : decode cX6_fill 127 = .ok (.iload_n 2, 1) := by decide +kernel
theorem dX6_fill_128 : decode cX6_fill 128 = .ok (.iload 4, 2) := by decide +kernel
theorem dX6_fill_130 : decode cX6_fill 130 = .ok (.aload_n 0, 1) := by decide +kernel
theorem dX6_fill_131 : decode cX6_fill 131 = .ok (.getfield 19, 3) := by decide +kernel
theorem dX6_fill_134 : decode cX6_fill 134 = .ok (.iconst 4, 1) := by decide +kernel
theorem dX6_fill_135 : decode cX6_fill 135 = .ok (.iload_n 1, 1) := by decide +kernel
theorem dX6_fill_136 : decode cX6_fill 136 = .ok (.imul, 1) := by decide +kernel
theorem dX6_fill_137 : decode cX6_fill 137 = .ok (.iconst 2, 1) := by decide +kernel
theorem dX6_fill_138 : decode cX6_fill 138 = .ok (.iadd, 1) := by decide +kernel
theorem dX6_fill_139 : decode cX6_fill 139 = .ok (.iaload, 1) := by decide +kernel
theorem dX6_fill_140 : decode cX6_fill 140 = .ok (.imul, 1) := by decide +kernel
theorem dX6_fill_141 : decode cX6_fill 141 = .ok (.iload 5, 2) := by decide +kernel
theorem dX6_fill_143 : decode cX6_fill 143 = .ok (.aload_n 0, 1) := by decide +kernel
theorem dX6_fill_144 : decode cX6_fill 144 = .ok (.getfield 19, 3) := by decide +kernel
theorem dX6_fill_147 : decode cX6_fill 147 = .ok (.iconst 4, 1) := by decide +kernel
theorem dX6_fill_148 : decode cX6_fill 148 = .ok (.iload_n 1, 1) := by decide +kernel
theorem dX6_fill_149 : decode cX6_fill 149 = .ok (.imul, 1) := by decide +kernel
theorem dX6_fill_150 : decode cX6_fill 150 = .ok (.iconst 3, 1) := by decide +kernel
theorem dX6_fill_151 : decode cX6_fill 151 = .ok (.iadd, 1) := by decide +kernel
theorem dX6_fill_152 : decode cX6_fill 152 = .ok (.iaload, 1) := by decide +kernel
theorem dX6_fill_153 : decode cX6_fill 153 = .ok (.imul, 1) := by decide +kernel
theorem dX6_fill_154 : decode cX6_fill 154 = .ok (.iadd, 1) := by decide +kernel
theorem dX6_fill_155 : decode cX6_fill 155 = .ok (.if_icmp .le 7, 3) := by decide +kernel
theorem dX6_fill_158 : decode cX6_fill 158 = .ok (.iconst 1, 1) := by decide +kernel
theorem dX6_fill_159 : decode cX6_fill 159 = .ok (.goto 4, 3) := by decide +kernel
theorem dX6_fill_162 : decode cX6_fill 162 = .ok (.iconst 0, 1) := by decide +kernel
theorem dX6_fill_163 : decode cX6_fill 163 = .ok (.istore 6, 2) := by decide +kernel
theorem dX6_fill_165 : decode cX6_fill 165 = .ok (.iload_n 2, 1) := by decide +kernel
theorem dX6_fill_166 : decode cX6_fill 166 = .ok (.iload 4, 2) := by decide +kernel
theorem dX6_fill_168 : decode cX6_fill 168 = .ok (.aload_n 0, 1) := by decide +kernel
theorem dX6_fill_169 : decode cX6_fill 169 = .ok (.getfield 19, 3) := by decide +kernel
theorem dX6_fill_172 : decode cX6_fill 172 = .ok (.iconst 4, 1) := by decide +kernel
theorem dX6_fill_173 : decode cX6_fill 173 = .ok (.iload_n 1, 1) := by decide +kernel
theorem dX6_fill_174 : decode cX6_fill 174 = .ok (.imul, 1) := by decide +kernel
theorem dX6_fill_175 : decode cX6_fill 175 = .ok (.iaload, 1) := by decide +kernel
theorem dX6_fill_176 : decode cX6_fill 176 = .ok (.imul, 1) := by decide +kernel
theorem dX6_fill_177 : decode cX6_fill 177 = .ok (.iload 5, 2) := by decide +kernel
theorem dX6_fill_179 : decode cX6_fill 179 = .ok (.aload_n 0, 1) := by decide +kernel
theorem dX6_fill_180 : decode cX6_fill 180 = .ok (.getfield 19, 3) := by decide +kernel
theorem dX6_fill_183 : decode cX6_fill 183 = .ok (.iconst 4, 1) := by decide +kernel
theorem dX6_fill_184 : decode cX6_fill 184 = .ok (.iload_n 1, 1) := by decide +kernel
theorem dX6_fill_185 : decode cX6_fill 185 = .ok (.imul, 1) := by decide +kernel
theorem dX6_fill_186 : decode cX6_fill 186 = .ok (.iconst 1, 1) := by decide +kernel
theorem dX6_fill_187 : decode cX6_fill 187 = .ok (.iadd, 1) := by decide +kernel
theorem dX6_fill_188 : decode cX6_fill 188 = .ok (.iaload, 1) := by decide +kernel
theorem dX6_fill_189 : decode cX6_fill 189 = .ok (.imul, 1) := by decide +kernel
theorem dX6_fill_190 : decode cX6_fill 190 = .ok (.iadd, 1) := by decide +kernel
theorem dX6_fill_191 : decode cX6_fill 191 = .ok (.if_icmp .ge 17, 3) := by decide +kernel
theorem dX6_fill_194 : decode cX6_fill 194 = .ok (.iload_n 2, 1) := by decide +kernel
theorem dX6_fill_195 : decode cX6_fill 195 = .ok (.aload_n 0, 1) := by decide +kernel
theorem dX6_fill_196 : decode cX6_fill 196 = .ok (.getfield 16, 3) := by decide +kernel
theorem dX6_fill_199 : decode cX6_fill 199 = .ok (.iload_n 1, 1) := by decide +kernel
theorem dX6_fill_200 : decode cX6_fill 200 = .ok (.iaload, 1) := by decide +kernel
theorem dX6_fill_201 : decode cX6_fill 201 = .ok (.if_icmp .ge 7, 3) := by decide +kernel
theorem dX6_fill_204 : decode cX6_fill 204 = .ok (.iconst 1, 1) := by decide +kernel
theorem dX6_fill_205 : decode cX6_fill 205 = .ok (.goto 4, 3) := by decide +kernel
theorem dX6_fill_208 : decode cX6_fill 208 = .ok (.iconst 0, 1) := by decide +kernel
theorem dX6_fill_209 : decode cX6_fill 209 = .ok (.istore 7, 2) := by decide +kernel
theorem dX6_fill_211 : decode cX6_fill 211 = .ok (.aload_n 0, 1) := by decide +kernel
theorem dX6_fill_212 : decode cX6_fill 212 = .ok (.getfield 31, 3) := by decide +kernel
theorem dX6_fill_215 : decode cX6_fill 215 = .ok (.iload_n 1, 1) := by decide +kernel
theorem dX6_fill_216 : decode cX6_fill 216 = .ok (.iload 6, 2) := by decide +kernel
theorem dX6_fill_218 : decode cX6_fill 218 = .ok (.ifCond .eq 7, 3) := by decide +kernel
theorem dX6_fill_221 : decode cX6_fill 221 = .ok (.iconst 1, 1) := by decide +kernel
theorem dX6_fill_222 : decode cX6_fill 222 = .ok (.goto 13, 3) := by decide +kernel
theorem dX6_fill_225 : decode cX6_fill 225 = .ok (.iload 7, 2) := by decide +kernel
theorem dX6_fill_227 : decode cX6_fill 227 = .ok (.ifCond .eq 7, 3) := by decide +kernel
theorem dX6_fill_230 : decode cX6_fill 230 = .ok (.iconst 2, 1) := by decide +kernel
theorem dX6_fill_231 : decode cX6_fill 231 = .ok (.goto 4, 3) := by decide +kernel
theorem dX6_fill_234 : decode cX6_fill 234 = .ok (.iconst 0, 1) := by decide +kernel
theorem dX6_fill_235 : decode cX6_fill 235 = .ok (.iastore, 1) := by decide +kernel
theorem dX6_fill_236 : decode cX6_fill 236 = .ok (.aload_n 0, 1) := by decide +kernel
theorem dX6_fill_237 : decode cX6_fill 237 = .ok (.getfield 34, 3) := by decide +kernel
theorem dX6_fill_240 : decode cX6_fill 240 = .ok (.iload_n 1, 1) := by decide +kernel
theorem dX6_fill_241 : decode cX6_fill 241 = .ok (.aload_n 0, 1) := by decide +kernel
theorem dX6_fill_242 : decode cX6_fill 242 = .ok (.getfield 34, 3) := by decide +kernel
theorem dX6_fill_245 : decode cX6_fill 245 = .ok (.iload_n 1, 1) := by decide +kernel
theorem dX6_fill_246 : decode cX6_fill 246 = .ok (.baload, 1) := by decide +kernel
theorem dX6_fill_247 : decode cX6_fill 247 = .ok (.ifCond .ne 13, 3) := by decide +kernel
theorem dX6_fill_250 : decode cX6_fill 250 = .ok (.iload 6, 2) := by decide +kernel
theorem dX6_fill_252 : decode cX6_fill 252 = .ok (.ifCond .ne 8, 3) := by decide +kernel
theorem dX6_fill_255 : decode cX6_fill 255 = .ok (.iload 7, 2) := by decide +kernel
theorem dX6_fill_257 : decode cX6_fill 257 = .ok (.ifCond .eq 7, 3) := by decide +kernel
theorem dX6_fill_260 : decode cX6_fill 260 = .ok (.iconst 1, 1) := by decide +kernel
theorem dX6_fill_261 : decode cX6_fill 261 = .ok (.goto 4, 3) := by decide +kernel
theorem dX6_fill_264 : decode cX6_fill 264 = .ok (.iconst 0, 1) := by decide +kernel
theorem dX6_fill_265 : decode cX6_fill 265 = .ok (.bastore, 1) := by decide +kernel
theorem dX6_fill_266 : decode cX6_fill 266 = .ok (.aload_n 0, 1) := by decide +kernel
theorem dX6_fill_267 : decode cX6_fill 267 = .ok (.getfield 31, 3) := by decide +kernel
theorem dX6_fill_270 : decode cX6_fill 270 = .ok (.iload_n 1, 1) := by decide +kernel
theorem dX6_fill_271 : decode cX6_fill 271 = .ok (.iaload, 1) := by decide +kernel
theorem dX6_fill_272 : decode cX6_fill 272 = .ok (.ifCond .ne 24, 3) := by decide +kernel
theorem dX6_fill_275 : decode cX6_fill 275 = .ok (.iload_n 2, 1) := by decide +kernel
theorem dX6_fill_276 : decode cX6_fill 276 = .ok (.aload_n 0, 1) := by decide +kernel
theorem dX6_fill_277 : decode cX6_fill 277 = .ok (.getfield 16, 3) := by decide +kernel
theorem dX6_fill_280 : decode cX6_fill 280 = .ok (.iload_n 1, 1) := by decide +kernel
theorem dX6_fill_281 : decode cX6_fill 281 = .ok (.iaload, 1) := by decide +kernel
theorem dX6_fill_282 : decode cX6_fill 282 = .ok (.if_icmp .ge 14, 3) := by decide +kernel
theorem dX6_fill_285 : decode cX6_fill 285 = .ok (.iload 4, 2) := by decide +kernel
theorem dX6_fill_287 : decode cX6_fill 287 = .ok (.ifCond .le 9, 3) := by decide +kernel
theorem dX6_fill_290 : decode cX6_fill 290 = .ok (.aload_n 0, 1) := by decide +kernel
theorem dX6_fill_291 : decode cX6_fill 291 = .ok (.iload_n 1, 1) := by decide +kernel
theorem dX6_fill_292 : decode cX6_fill 292 = .ok (.iload_n 2, 1) := by decide +kernel
theorem dX6_fill_293 : decode cX6_fill 293 = .ok (.invokevirtual 193, 3) := by decide +kernel
theorem dX6_fill_296 : decode cX6_fill 296 = .ok (.aload_n 0, 1) := by decide +kernel
theorem dX6_fill_297 : decode cX6_fill 297 = .ok (.getfield 28, 3) := by decide +kernel
theorem dX6_fill_300 : decode cX6_fill 300 = .ok (.iload_n 1, 1) := by decide +kernel
theorem dX6_fill_301 : decode cX6_fill 301 = .ok (.dup2, 1) := by decide +kernel
theorem dX6_fill_302 : decode cX6_fill 302 = .ok (.iaload, 1) := by decide +kernel
theorem dX6_fill_303 : decode cX6_fill 303 = .ok (.iconst 1, 1) := by decide +kernel
theorem dX6_fill_304 : decode cX6_fill 304 = .ok (.iadd, 1) := by decide +kernel
theorem dX6_fill_305 : decode cX6_fill 305 = .ok (.iastore, 1) := by decide +kernel
theorem dX6_fill_306 : decode cX6_fill 306 = .ok (.aload_n 0, 1) := by decide +kernel
theorem dX6_fill_307 : decode cX6_fill 307 = .ok (.getfield 22, 3) := by decide +kernel
theorem dX6_fill_310 : decode cX6_fill 310 = .ok (.iload_n 1, 1) := by decide +kernel
theorem dX6_fill_311 : decode cX6_fill 311 = .ok (.aload_n 0, 1) := by decide +kernel
theorem dX6_fill_312 : decode cX6_fill 312 = .ok (.getfield 16, 3) := by decide +kernel
theorem dX6_fill_315 : decode cX6_fill 315 = .ok (.iload_n 1, 1) := by decide +kernel
theorem dX6_fill_316 : decode cX6_fill 316 = .ok (.iaload, 1) := by decide +kernel
theorem dX6_fill_317 : decode cX6_fill 317 = .ok (.iastore, 1) := by decide +kernel
theorem dX6_fill_318 : decode cX6_fill 318 = .ok (.aload_n 0, 1) := by decide +kernel
theorem dX6_fill_319 : decode cX6_fill 319 = .ok (.getfield 25, 3) := by decide +kernel
theorem dX6_fill_322 : decode cX6_fill 322 = .ok (.iload_n 1, 1) := by decide +kernel
theorem dX6_fill_323 : decode cX6_fill 323 = .ok (.aload_n 0, 1) := by decide +kernel
theorem dX6_fill_324 : decode cX6_fill 324 = .ok (.getfield 16, 3) := by decide +kernel
theorem dX6_fill_327 : decode cX6_fill 327 = .ok (.iload_n 1, 1) := by decide +kernel
theorem dX6_fill_328 : decode cX6_fill 328 = .ok (.iaload, 1) := by decide +kernel
theorem dX6_fill_329 : decode cX6_fill 329 = .ok (.iastore, 1) := by decide +kernel
theorem dX6_fill_330 : decode cX6_fill 330 = .ok (.aload_n 0, 1) := by decide +kernel
theorem dX6_fill_331 : decode cX6_fill 331 = .ok (.getfield 38, 3) := by decide +kernel
theorem dX6_fill_334 : decode cX6_fill 334 = .ok (.iload_n 1, 1) := by decide +kernel
theorem dX6_fill_335 : decode cX6_fill 335 = .ok (.iconst 0, 1) := by decide +kernel
theorem dX6_fill_336 : decode cX6_fill 336 = .ok (.iastore, 1) := by decide +kernel
theorem dX6_fill_337 : decode cX6_fill 337 = .ok (.aload_n 0, 1) := by decide +kernel
theorem dX6_fill_338 : decode cX6_fill 338 = .ok (.getfield 41, 3) := by decide +kernel
theorem dX6_fill_341 : decode cX6_fill 341 = .ok (.iload_n 1, 1) := by decide +kernel
theorem dX6_fill_342 : decode cX6_fill 342 = .ok (.iconst 0, 1) := by decide +kernel
theorem dX6_fill_343 : decode cX6_fill 343 = .ok (.iastore, 1) := by decide +kernel
theorem dX6_fill_344 : decode cX6_fill 344 = .ok (.iload_n 3, 1) := by decide +kernel
theorem dX6_fill_345 : decode cX6_fill 345 = .ok (.ireturn, 1) := by decide +kernel
theorem dX6_price_0 : decode cX6_price 0 = .ok (.aload_n 0, 1) := by decide +kernel
theorem dX6_price_1 : decode cX6_price 1 = .ok (.iconst 0, 1) := by decide +kernel
theorem dX6_price_2 : decode cX6_price 2 = .ok (.putfield 90, 3) := by decide +kernel
theorem dX6_price_5 : decode cX6_price 5 = .ok (.iload_n 1, 1) := by decide +kernel
theorem dX6_price_6 : decode cX6_price 6 = .ok (.i2l, 1) := by decide +kernel
theorem dX6_price_7 : decode cX6_price 7 = .ok (.lconst 0, 1) := by decide +kernel
theorem dX6_price_8 : decode cX6_price 8 = .ok (.ldc2_w 197, 3) := by decide +kernel
theorem dX6_price_11 : decode cX6_price 11 = .ok (.invokestatic 96, 3) := by decide +kernel
theorem dX6_price_14 : decode cX6_price 14 = .ok (.ifCond .ne 6, 3) := by decide +kernel
theorem dX6_price_17 : decode cX6_price 17 = .ok (.ldc 106, 2) := by decide +kernel
theorem dX6_price_19 : decode cX6_price 19 = .ok (.ireturn, 1) := by decide +kernel
theorem dX6_price_20 : decode cX6_price 20 = .ok (.aload_n 0, 1) := by decide +kernel
theorem dX6_price_21 : decode cX6_price 21 = .ok (.getfield 63, 3) := by decide +kernel
theorem dX6_price_24 : decode cX6_price 24 = .ok (.istore_n 2, 1) := by decide +kernel
theorem dX6_price_25 : decode cX6_price 25 = .ok (.aload_n 0, 1) := by decide +kernel
theorem dX6_price_26 : decode cX6_price 26 = .ok (.iload_n 1, 1) := by decide +kernel
theorem dX6_price_27 : decode cX6_price 27 = .ok (.putfield 63, 3) := by decide +kernel
theorem dX6_price_30 : decode cX6_price 30 = .ok (.iload_n 2, 1) := by decide +kernel
theorem dX6_price_31 : decode cX6_price 31 = .ok (.ireturn, 1) := by decide +kernel
theorem dX6_quote_0 : decode cX6_quote 0 = .ok (.aload_n 0, 1) := by decide +kernel
theorem dX6_quote_1 : decode cX6_quote 1 = .ok (.iconst 0, 1) := by decide +kernel
theorem dX6_quote_2 : decode cX6_quote 2 = .ok (.putfield 90, 3) := by decide +kernel
theorem dX6_quote_5 : decode cX6_quote 5 = .ok (.aload_n 0, 1) := by decide +kernel
theorem dX6_quote_6 : decode cX6_quote 6 = .ok (.iload_n 1, 1) := by decide +kernel
theorem dX6_quote_7 : decode cX6_quote 7 = .ok (.invokevirtual 108, 3) := by decide +kernel
theorem dX6_quote_10 : decode cX6_quote 10 = .ok (.ifCond .eq 24, 3) := by decide +kernel
theorem dX6_quote_13 : decode cX6_quote 13 = .ok (.iload_n 2, 1) := by decide +kernel
theorem dX6_quote_14 : decode cX6_quote 14 = .ok (.i2l, 1) := by decide +kernel
theorem dX6_quote_15 : decode cX6_quote 15 = .ok (.lconst 0, 1) := by decide +kernel
theorem dX6_quote_16 : decode cX6_quote 16 = .ok (.ldc2_w 104, 3) := by decide +kernel
theorem dX6_quote_19 : decode cX6_quote 19 = .ok (.invokestatic 96, 3) := by decide +kernel
theorem dX6_quote_22 : decode cX6_quote 22 = .ok (.ifCond .eq 12, 3) := by decide +kernel
theorem dX6_quote_25 : decode cX6_quote 25 = .ok (.aload_n 0, 1) := by decide +kernel
theorem dX6_quote_26 : decode cX6_quote 26 = .ok (.iload_n 1, 1) := by decide +kernel
theorem dX6_quote_27 : decode cX6_quote 27 = .ok (.iload_n 2, 1) := by decide +kernel
theorem dX6_quote_28 : decode cX6_quote 28 = .ok (.invokevirtual 184, 3) := by decide +kernel
theorem dX6_quote_31 : decode cX6_quote 31 = .ok (.goto 5, 3) := by decide +kernel
theorem dX6_quote_34 : decode cX6_quote 34 = .ok (.ldc 106, 2) := by decide +kernel
theorem dX6_quote_36 : decode cX6_quote 36 = .ok (.ireturn, 1) := by decide +kernel
theorem dX6_feed_0 : decode cX6_feed 0 = .ok (.aload_n 0, 1) := by decide +kernel
theorem dX6_feed_1 : decode cX6_feed 1 = .ok (.iconst 0, 1) := by decide +kernel
theorem dX6_feed_2 : decode cX6_feed 2 = .ok (.putfield 90, 3) := by decide +kernel
theorem dX6_feed_5 : decode cX6_feed 5 = .ok (.iload_n 3, 1) := by decide +kernel
theorem dX6_feed_6 : decode cX6_feed 6 = .ok (.i2l, 1) := by decide +kernel
theorem dX6_feed_7 : decode cX6_feed 7 = .ok (.lconst 1, 1) := by decide +kernel
theorem dX6_feed_8 : decode cX6_feed 8 = .ok (.ldc2_w 199, 3) := by decide +kernel
theorem dX6_feed_11 : decode cX6_feed 11 = .ok (.invokestatic 96, 3) := by decide +kernel
theorem dX6_feed_14 : decode cX6_feed 14 = .ok (.ifCond .ne 6, 3) := by decide +kernel
theorem dX6_feed_17 : decode cX6_feed 17 = .ok (.ldc 106, 2) := by decide +kernel
theorem dX6_feed_19 : decode cX6_feed 19 = .ok (.ireturn, 1) := by decide +kernel
theorem dX6_feed_20 : decode cX6_feed 20 = .ok (.aload_n 0, 1) := by decide +kernel
theorem dX6_feed_21 : decode cX6_feed 21 = .ok (.getfield 201, 3) := by decide +kernel
theorem dX6_feed_24 : decode cX6_feed 24 = .ok (.iload_n 3, 1) := by decide +kernel
theorem dX6_feed_25 : decode cX6_feed 25 = .ok (.iadd, 1) := by decide +kernel
theorem dX6_feed_26 : decode cX6_feed 26 = .ok (.sipush 300, 3) := by decide +kernel
theorem dX6_feed_29 : decode cX6_feed 29 = .ok (.if_icmp .le 6, 3) := by decide +kernel
theorem dX6_feed_32 : decode cX6_feed 32 = .ok (.ldc 107, 2) := by decide +kernel
theorem dX6_feed_34 : decode cX6_feed 34 = .ok (.ireturn, 1) := by decide +kernel
theorem dX6_feed_35 : decode cX6_feed 35 = .ok (.iload_n 3, 1) := by decide +kernel
theorem dX6_feed_36 : decode cX6_feed 36 = .ok (.iconst 1, 1) := by decide +kernel
theorem dX6_feed_37 : decode cX6_feed 37 = .ok (.isub, 1) := by decide +kernel
theorem dX6_feed_38 : decode cX6_feed 38 = .ok (.istore 4, 2) := by decide +kernel
theorem dX6_feed_40 : decode cX6_feed 40 = .ok (.iload 4, 2) := by decide +kernel
theorem dX6_feed_42 : decode cX6_feed 42 = .ok (.ifCond .lt 40, 3) := by decide +kernel
theorem dX6_feed_45 : decode cX6_feed 45 = .ok (.aload_n 0, 1) := by decide +kernel
theorem dX6_feed_46 : decode cX6_feed 46 = .ok (.getfield 72, 3) := by decide +kernel
theorem dX6_feed_49 : decode cX6_feed 49 = .ok (.aload_n 0, 1) := by decide +kernel
theorem dX6_feed_50 : decode cX6_feed 50 = .ok (.getfield 201, 3) := by decide +kernel
theorem dX6_feed_53 : decode cX6_feed 53 = .ok (.lload_n 1, 1) := by decide +kernel
theorem dX6_feed_54 : decode cX6_feed 54 = .ok (.bipush 8, 2) := by decide +kernel
theorem dX6_feed_56 : decode cX6_feed 56 = .ok (.iload 4, 2) := by decide +kernel
theorem dX6_feed_58 : decode cX6_feed 58 = .ok (.imul, 1) := by decide +kernel
theorem dX6_feed_59 : decode cX6_feed 59 = .ok (.lshr, 1) := by decide +kernel
theorem dX6_feed_60 : decode cX6_feed 60 = .ok (.ldc2_w 204, 3) := by decide +kernel
theorem dX6_feed_63 : decode cX6_feed 63 = .ok (.land, 1) := by decide +kernel
theorem dX6_feed_64 : decode cX6_feed 64 = .ok (.l2i, 1) := by decide +kernel
theorem dX6_feed_65 : decode cX6_feed 65 = .ok (.iastore, 1) := by decide +kernel
theorem dX6_feed_66 : decode cX6_feed 66 = .ok (.aload_n 0, 1) := by decide +kernel
theorem dX6_feed_67 : decode cX6_feed 67 = .ok (.dup, 1) := by decide +kernel
theorem dX6_feed_68 : decode cX6_feed 68 = .ok (.getfield 201, 3) := by decide +kernel
theorem dX6_feed_71 : decode cX6_feed 71 = .ok (.iconst 1, 1) := by decide +kernel
theorem dX6_feed_72 : decode cX6_feed 72 = .ok (.iadd, 1) := by decide +kernel
theorem dX6_feed_73 : decode cX6_feed 73 = .ok (.putfield 201, 3) := by decide +kernel
theorem dX6_feed_76 : decode cX6_feed 76 = .ok (.iinc 4 (-1), 3) := by decide +kernel
theorem dX6_feed_79 : decode cX6_feed 79 = .ok (.goto (-39), 3) := by decide +kernel
theorem dX6_feed_82 : decode cX6_feed 82 = .ok (.aload_n 0, 1) := by decide +kernel
theorem dX6_feed_83 : decode cX6_feed 83 = .ok (.getfield 201, 3) := by decide +kernel
theorem dX6_feed_86 : decode cX6_feed 86 = .ok (.ireturn, 1) := by decide +kernel
theorem dX6_byteAt_0 : decode cX6_byteAt 0 = .ok (.iload_n 1, 1) := by decide +kernel
theorem dX6_byteAt_1 : decode cX6_byteAt 1 = .ok (.aload_n 0, 1) := by decide +kernel
theorem dX6_byteAt_2 : decode cX6_byteAt 2 = .ok (.getfield 206, 3) := by decide +kernel
theorem dX6_byteAt_5 : decode cX6_byteAt 5 = .ok (.if_icmp .ge 12, 3) := by decide +kernel
theorem dX6_byteAt_8 : decode cX6_byteAt 8 = .ok (.aload_n 0, 1) := by decide +kernel
theorem dX6_byteAt_9 : decode cX6_byteAt 9 = .ok (.getfield 72, 3) := by decide +kernel
theorem dX6_byteAt_12 : decode cX6_byteAt 12 = .ok (.iload_n 1, 1) := by decide +kernel
theorem dX6_byteAt_13 : decode cX6_byteAt 13 = .ok (.iaload, 1) := by decide +kernel
theorem dX6_byteAt_14 : decode cX6_byteAt 14 = .ok (.goto 5, 3) := by decide +kernel
theorem dX6_byteAt_17 : decode cX6_byteAt 17 = .ok (.ldc 145, 2) := by decide +kernel
theorem dX6_byteAt_19 : decode cX6_byteAt 19 = .ok (.ireturn, 1) := by decide +kernel
theorem dX6_isLetter_0 : decode cX6_isLetter 0 = .ok (.iload_n 0, 1) := by decide +kernel
theorem dX6_isLetter_1 : decode cX6_isLetter 1 = .ok (.bipush 97, 2) := by decide +kernel
theorem dX6_isLetter_3 : decode cX6_isLetter 3 = .ok (.if_icmp .lt 13, 3) := by decide +kernel
theorem dX6_isLetter_6 : decode cX6_isLetter 6 = .ok (.iload_n 0, 1) := by decide +kernel
theorem dX6_isLetter_7 : decode cX6_isLetter 7 = .ok (.bipush 122, 2) := by decide +kernel
theorem dX6_isLetter_9 : decode cX6_isLetter 9 = .ok (.if_icmp .gt 7, 3) := by decide +kernel
theorem dX6_isLetter_12 : decode cX6_isLetter 12 = .ok (.iconst 1, 1) := by decide +kernel
theorem dX6_isLetter_13 : decode cX6_isLetter 13 = .ok (.goto 4, 3) := by decide +kernel
theorem dX6_isLetter_16 : decode cX6_isLetter 16 = .ok (.iconst 0, 1) := by decide +kernel
theorem dX6_isLetter_17 : decode cX6_isLetter 17 = .ok (.ireturn, 1) := by decide +kernel
theorem dX6_isFigure_0 : decode cX6_isFigure 0 = .ok (.iload_n 0, 1) := by decide +kernel
theorem dX6_isFigure_1 : decode cX6_isFigure 1 = .ok (.bipush 48, 2) := by decide +kernel
theorem dX6_isFigure_3 : decode cX6_isFigure 3 = .ok (.if_icmp .lt 13, 3) := by decide +kernel
theorem dX6_isFigure_6 : decode cX6_isFigure 6 = .ok (.iload_n 0, 1) := by decide +kernel
theorem dX6_isFigure_7 : decode cX6_isFigure 7 = .ok (.bipush 57, 2) := by decide +kernel
theorem dX6_isFigure_9 : decode cX6_isFigure 9 = .ok (.if_icmp .gt 7, 3) := by decide +kernel
theorem dX6_isFigure_12 : decode cX6_isFigure 12 = .ok (.iconst 1, 1) := by decide +kernel
theorem dX6_isFigure_13 : decode cX6_isFigure 13 = .ok (.goto 4, 3) := by decide +kernel
theorem dX6_isFigure_16 : decode cX6_isFigure 16 = .ok (.iconst 0, 1) := by decide +kernel
theorem dX6_isFigure_17 : decode cX6_isFigure 17 = .ok (.ireturn, 1) := by decide +kernel
theorem dX6_step_0 : decode cX6_step 0 = .ok (.aload_n 0, 1) := by decide +kernel
theorem dX6_step_1 : decode cX6_step 1 = .ok (.aload_n 0, 1) := by decide +kernel
theorem dX6_step_2 : decode cX6_step 2 = .ok (.getfield 209, 3) := by decide +kernel
theorem dX6_step_5 : decode cX6_step 5 = .ok (.invokevirtual 212, 3) := by decide +kernel
theorem dX6_step_8 : decode cX6_step 8 = .ok (.bipush 32, 2) := by decide +kernel
theorem dX6_step_10 : decode cX6_step 10 = .ok (.if_icmp .eq 16, 3) := by decide +kernel
theorem dX6_step_13 : decode cX6_step 13 = .ok (.aload_n 0, 1) := by decide +kernel
theorem dX6_step_14 : decode cX6_step 14 = .ok (.aload_n 0, 1) := by decide +kernel
theorem dX6_step_15 : decode cX6_step 15 = .ok (.getfield 209, 3) := by decide +kernel
theorem dX6_step_18 : decode cX6_step 18 = .ok (.invokevirtual 212, 3) := by decide +kernel
theorem dX6_step_21 : decode cX6_step 21 = .ok (.bipush 10, 2) := by decide +kernel
theorem dX6_step_23 : decode cX6_step 23 = .ok (.if_icmp .ne 16, 3) := by decide +kernel
theorem dX6_step_26 : decode cX6_step 26 = .ok (.aload_n 0, 1) := by decide +kernel
theorem dX6_step_27 : decode cX6_step 27 = .ok (.dup, 1) := by decide +kernel
theorem dX6_step_28 : decode cX6_step 28 = .ok (.getfield 209, 3) := by decide +kernel
theorem dX6_step_31 : decode cX6_step 31 = .ok (.iconst 1, 1) := by decide +kernel
theorem dX6_step_32 : decode cX6_step 32 = .ok (.iadd, 1) := by decide +kernel
theorem dX6_step_33 : decode cX6_step 33 = .ok (.putfield 209, 3) := by decide +kernel
theorem dX6_step_36 : decode cX6_step 36 = .ok (.goto (-36), 3) := by decide +kernel
theorem dX6_step_39 : decode cX6_step 39 = .ok (.aload_n 0, 1) := by decide +kernel
theorem dX6_step_40 : decode cX6_step 40 = .ok (.aload_n 0, 1) := by decide +kernel
theorem dX6_step_41 : decode cX6_step 41 = .ok (.getfield 209, 3) := by decide +kernel
theorem dX6_step_44 : decode cX6_step 44 = .ok (.putfield 215, 3) := by decide +kernel
theorem dX6_step_47 : decode cX6_step 47 = .ok (.aload_n 0, 1) := by decide +kernel
theorem dX6_step_48 : decode cX6_step 48 = .ok (.aload_n 0, 1) := by decide +kernel
theorem dX6_step_49 : decode cX6_step 49 = .ok (.getfield 209, 3) := by decide +kernel
theorem dX6_step_52 : decode cX6_step 52 = .ok (.invokevirtual 212, 3) := by decide +kernel
theorem dX6_step_55 : decode cX6_step 55 = .ok (.istore_n 1, 1) := by decide +kernel
theorem dX6_step_56 : decode cX6_step 56 = .ok (.iload_n 1, 1) := by decide +kernel
theorem dX6_step_57 : decode cX6_step 57 = .ok (.ldc 145, 2) := by decide +kernel
theorem dX6_step_59 : decode cX6_step 59 = .ok (.if_icmp .ne 11, 3) := by decide +kernel
theorem dX6_step_62 : decode cX6_step 62 = .ok (.aload_n 0, 1) := by decide +kernel
theorem dX6_step_63 : decode cX6_step 63 = .ok (.iconst 1, 1) := by decide +kernel
theorem dX6_step_64 : decode cX6_step 64 = .ok (.putfield 218, 3) := by decide +kernel
theorem dX6_step_67 : decode cX6_step 67 = .ok (.goto 153, 3) := by decide +kernel
theorem dX6_step_70 : decode cX6_step 70 = .ok (.iload_n 1, 1) := by decide +kernel
theorem dX6_step_71 : decode cX6_step 71 = .ok (.invokestatic 221, 3) := by decide +kernel
theorem dX6_step_74 : decode cX6_step 74 = .ok (.ifCond .eq 56, 3) := by decide +kernel
theorem dX6_step_77 : decode cX6_step 77 = .ok (.aload_n 0, 1) := by decide +kernel
theorem dX6_step_78 : decode cX6_step 78 = .ok (.aload_n 0, 1) := by decide +kernel
theorem dX6_step_79 : decode cX6_step 79 = .ok (.getfield 209, 3) := by decide +kernel
theorem dX6_step_82 : decode cX6_step 82 = .ok (.invokevirtual 212, 3) := by decide +kernel
theorem dX6_step_85 : decode cX6_step 85 = .ok (.invokestatic 221, 3) := by decide +kernel
theorem dX6_step_88 : decode cX6_step 88 = .ok (.ifCond .eq 16, 3) := by decide +kernel
theorem dX6_step_91 : decode cX6_step 91 = .ok (.aload_n 0, 1) := by decide +kernel
theorem dX6_step_92 : decode cX6_step 92 = .ok (.dup, 1) := by decide +kernel
theorem dX6_step_93 : decode cX6_step 93 = .ok (.getfield 209, 3) := by decide +kernel
theorem dX6_step_96 : decode cX6_step 96 = .ok (.iconst 1, 1) := by decide +kernel
theorem dX6_step_97 : decode cX6_step 97 = .ok (.iadd, 1) := by decide +kernel
theorem dX6_step_98 : decode cX6_step 98 = .ok (.putfield 209, 3) := by decide +kernel
theorem dX6_step_101 : decode cX6_step 101 = .ok (.goto (-24), 3) := by decide +kernel
theorem dX6_step_104 : decode cX6_step 104 = .ok (.aload_n 0, 1) := by decide +kernel
theorem dX6_step_105 : decode cX6_step 105 = .ok (.aload_n 0, 1) := by decide +kernel
theorem dX6_step_106 : decode cX6_step 106 = .ok (.getfield 209, 3) := by decide +kernel
theorem dX6_step_109 : decode cX6_step 109 = .ok (.aload_n 0, 1) := by decide +kernel
theorem dX6_step_110 : decode cX6_step 110 = .ok (.getfield 215, 3) := by decide +kernel
theorem dX6_step_113 : decode cX6_step 113 = .ok (.isub, 1) := by decide +kernel
theorem dX6_step_114 : decode cX6_step 114 = .ok (.bipush 6, 2) := by decide +kernel
theorem dX6_step_116 : decode cX6_step 116 = .ok (.if_icmp .le 7, 3) := by decide +kernel
theorem dX6_step_119 : decode cX6_step 119 = .ok (.iconst 0, 1) := by decide +kernel
theorem dX6_step_120 : decode cX6_step 120 = .ok (.goto 4, 3) := by decide +kernel
theorem dX6_step_123 : decode cX6_step 123 = .ok (.iconst 2, 1) := by decide +kernel
theorem dX6_step_124 : decode cX6_step 124 = .ok (.putfield 218, 3) := by decide +kernel
theorem dX6_step_127 : decode cX6_step 127 = .ok (.goto 93, 3) := by decide +kernel
theorem dX6_step_130 : decode cX6_step 130 = .ok (.iload_n 1, 1) := by decide +kernel
theorem dX6_step_131 : decode cX6_step 131 = .ok (.invokestatic 224, 3) := by decide +kernel
theorem dX6_step_134 : decode cX6_step 134 = .ok (.ifCond .eq 55, 3) := by decide +kernel
theorem dX6_step_137 : decode cX6_step 137 = .ok (.aload_n 0, 1) := by decide +kernel
theorem dX6_step_138 : decode cX6_step 138 = .ok (.aload_n 0, 1) := by decide +kernel
theorem dX6_step_139 : decode cX6_step 139 = .ok (.getfield 209, 3) := by decide +kernel
theorem dX6_step_142 : decode cX6_step 142 = .ok (.invokevirtual 212, 3) := by decide +kernel
theorem dX6_step_145 : decode cX6_step 145 = .ok (.invokestatic 224, 3) := by decide +kernel
theorem dX6_step_148 : decode cX6_step 148 = .ok (.ifCond .eq 16, 3) := by decide +kernel
theorem dX6_step_151 : decode cX6_step 151 = .ok (.aload_n 0, 1) := by decide +kernel
theorem dX6_step_152 : decode cX6_step 152 = .ok (.dup, 1) := by decide +kernel
theorem dX6_step_153 : decode cX6_step 153 = .ok (.getfield 209, 3) := by decide +kernel
theorem dX6_step_156 : decode cX6_step 156 = .ok (.iconst 1, 1) := by decide +kernel
theorem dX6_step_157 : decode cX6_step 157 = .ok (.iadd, 1) := by decide +kernel
theorem dX6_step_158 : decode cX6_step 158 = .ok (.putfield 209, 3) := by decide +kernel
theorem dX6_step_161 : decode cX6_step 161 = .ok (.goto (-24), 3) := by decide +kernel
theorem dX6_step_164 : decode cX6_step 164 = .ok (.aload_n 0, 1) := by decide +kernel
theorem dX6_step_165 : decode cX6_step 165 = .ok (.aload_n 0, 1) := by decide +kernel
theorem dX6_step_166 : decode cX6_step 166 = .ok (.getfield 209, 3) := by decide +kernel
theorem dX6_step_169 : decode cX6_step 169 = .ok (.aload_n 0, 1) := by decide +kernel
theorem dX6_step_170 : decode cX6_step 170 = .ok (.getfield 215, 3) := by decide +kernel
theorem dX6_step_173 : decode cX6_step 173 = .ok (.isub, 1) := by decide +kernel
theorem dX6_step_174 : decode cX6_step 174 = .ok (.iconst 5, 1) := by decide +kernel
theorem dX6_step_175 : decode cX6_step 175 = .ok (.if_icmp .le 7, 3) := by decide +kernel
theorem dX6_step_178 : decode cX6_step 178 = .ok (.iconst 0, 1) := by decide +kernel
theorem dX6_step_179 : decode cX6_step 179 = .ok (.goto 4, 3) := by decide +kernel
theorem dX6_step_182 : decode cX6_step 182 = .ok (.iconst 3, 1) := by decide +kernel
theorem dX6_step_183 : decode cX6_step 183 = .ok (.putfield 218, 3) := by decide +kernel
theorem dX6_step_186 : decode cX6_step 186 = .ok (.goto 34, 3) := by decide +kernel
theorem dX6_step_189 : decode cX6_step 189 = .ok (.aload_n 0, 1) := by decide +kernel
theorem dX6_step_190 : decode cX6_step 190 = .ok (.dup, 1) := by decide +kernel
theorem dX6_step_191 : decode cX6_step 191 = .ok (.getfield 209, 3) := by decide +kernel
theorem dX6_step_194 : decode cX6_step 194 = .ok (.iconst 1, 1) := by decide +kernel
theorem dX6_step_195 : decode cX6_step 195 = .ok (.iadd, 1) := by decide +kernel
theorem dX6_step_196 : decode cX6_step 196 = .ok (.putfield 209, 3) := by decide +kernel
theorem dX6_step_199 : decode cX6_step 199 = .ok (.aload_n 0, 1) := by decide +kernel
theorem dX6_step_200 : decode cX6_step 200 = .ok (.iload_n 1, 1) := by decide +kernel
theorem dX6_step_201 : decode cX6_step 201 = .ok (.bipush 59, 2) := by decide +kernel
theorem dX6_step_203 : decode cX6_step 203 = .ok (.if_icmp .eq 9, 3) := by decide +kernel
theorem dX6_step_206 : decode cX6_step 206 = .ok (.iload_n 1, 1) := by decide +kernel
theorem dX6_step_207 : decode cX6_step 207 = .ok (.bipush 64, 2) := by decide +kernel
theorem dX6_step_209 : decode cX6_step 209 = .ok (.if_icmp .ne 7, 3) := by decide +kernel
theorem dX6_step_212 : decode cX6_step 212 = .ok (.iconst 4, 1) := by decide +kernel
theorem dX6_step_213 : decode cX6_step 213 = .ok (.goto 4, 3) := by decide +kernel
theorem dX6_step_216 : decode cX6_step 216 = .ok (.iconst 0, 1) := by decide +kernel
theorem dX6_step_217 : decode cX6_step 217 = .ok (.putfield 218, 3) := by decide +kernel
theorem dX6_step_220 : decode cX6_step 220 = .ok (.aload_n 0, 1) := by decide +kernel
theorem dX6_step_221 : decode cX6_step 221 = .ok (.aload_n 0, 1) := by decide +kernel
theorem dX6_step_222 : decode cX6_step 222 = .ok (.getfield 209, 3) := by decide +kernel
theorem dX6_step_225 : decode cX6_step 225 = .ok (.putfield 227, 3) := by decide +kernel
theorem dX6_step_228 : decode cX6_step 228 = .ok (.return_, 1) := by decide +kernel
theorem dX6_bad_0 : decode cX6_bad 0 = .ok (.aload_n 0, 1) := by decide +kernel
theorem dX6_bad_1 : decode cX6_bad 1 = .ok (.getfield 230, 3) := by decide +kernel
theorem dX6_bad_4 : decode cX6_bad 4 = .ok (.ifCond .ne 16, 3) := by decide +kernel
theorem dX6_bad_7 : decode cX6_bad 7 = .ok (.aload_n 0, 1) := by decide +kernel
theorem dX6_bad_8 : decode cX6_bad 8 = .ok (.iload_n 1, 1) := by decide +kernel
theorem dX6_bad_9 : decode cX6_bad 9 = .ok (.putfield 230, 3) := by decide +kernel
theorem dX6_bad_12 : decode cX6_bad 12 = .ok (.aload_n 0, 1) := by decide +kernel
theorem dX6_bad_13 : decode cX6_bad 13 = .ok (.aload_n 0, 1) := by decide +kernel
theorem dX6_bad_14 : decode cX6_bad 14 = .ok (.getfield 215, 3) := by decide +kernel
theorem dX6_bad_17 : decode cX6_bad 17 = .ok (.putfield 233, 3) := by decide +kernel
theorem dX6_bad_20 : decode cX6_bad 20 = .ok (.return_, 1) := by decide +kernel
theorem dX6_take_0 : decode cX6_take 0 = .ok (.iload_n 1, 1) := by decide +kernel
theorem dX6_take_1 : decode cX6_take 1 = .ok (.ifCond .ne 8, 3) := by decide +kernel
theorem dX6_take_4 : decode cX6_take 4 = .ok (.aload_n 0, 1) := by decide +kernel
theorem dX6_take_5 : decode cX6_take 5 = .ok (.iconst 1, 1) := by decide +kernel
theorem dX6_take_6 : decode cX6_take 6 = .ok (.invokevirtual 236, 3) := by decide +kernel
theorem dX6_take_9 : decode cX6_take 9 = .ok (.aload_n 0, 1) := by decide +kernel
theorem dX6_take_10 : decode cX6_take 10 = .ok (.getfield 230, 3) := by decide +kernel
theorem dX6_take_13 : decode cX6_take 13 = .ok (.ifCond .ne 7, 3) := by decide +kernel
theorem dX6_take_16 : decode cX6_take 16 = .ok (.aload_n 0, 1) := by decide +kernel
theorem dX6_take_17 : decode cX6_take 17 = .ok (.invokevirtual 240, 3) := by decide +kernel
theorem dX6_take_20 : decode cX6_take 20 = .ok (.return_, 1) := by decide +kernel
theorem dX6_is_0 : decode cX6_is 0 = .ok (.aload_n 0, 1) := by decide +kernel
theorem dX6_is_1 : decode cX6_is 1 = .ok (.getfield 218, 3) := by decide +kernel
theorem dX6_is_4 : decode cX6_is 4 = .ok (.iconst 4, 1) := by decide +kernel
theorem dX6_is_5 : decode cX6_is 5 = .ok (.if_icmp .ne 20, 3) := by decide +kernel
theorem dX6_is_8 : decode cX6_is 8 = .ok (.aload_n 0, 1) := by decide +kernel
theorem dX6_is_9 : decode cX6_is 9 = .ok (.getfield 72, 3) := by decide +kernel
theorem dX6_is_12 : decode cX6_is 12 = .ok (.aload_n 0, 1) := by decide +kernel
theorem dX6_is_13 : decode cX6_is 13 = .ok (.getfield 215, 3) := by decide +kernel
theorem dX6_is_16 : decode cX6_is 16 = .ok (.iaload, 1) := by decide +kernel
theorem dX6_is_17 : decode cX6_is 17 = .ok (.iload_n 1, 1) := by decide +kernel
theorem dX6_is_18 : decode cX6_is 18 = .ok (.if_icmp .ne 7, 3) := by decide +kernel
theorem dX6_is_21 : decode cX6_is 21 = .ok (.iconst 1, 1) := by decide +kernel
theorem dX6_is_22 : decode cX6_is 22 = .ok (.goto 4, 3) := by decide +kernel
theorem dX6_is_25 : decode cX6_is 25 = .ok (.iconst 0, 1) := by decide +kernel
theorem dX6_is_26 : decode cX6_is 26 = .ok (.ireturn, 1) := by decide +kernel
theorem dX6_name_0 : decode cX6_name 0 = .ok (.lconst 0, 1) := by decide +kernel
theorem dX6_name_1 : decode cX6_name 1 = .ok (.lstore_n 1, 1) := by decide +kernel
theorem dX6_name_2 : decode cX6_name 2 = .ok (.aload_n 0, 1) := by decide +kernel
theorem dX6_name_3 : decode cX6_name 3 = .ok (.getfield 215, 3) := by decide +kernel
theorem dX6_name_6 : decode cX6_name 6 = .ok (.istore_n 3, 1) := by decide +kernel
theorem dX6_name_7 : decode cX6_name 7 = .ok (.iload_n 3, 1) := by decide +kernel
theorem dX6_name_8 : decode cX6_name 8 = .ok (.aload_n 0, 1) := by decide +kernel
theorem dX6_name_9 : decode cX6_name 9 = .ok (.getfield 227, 3) := by decide +kernel
theorem dX6_name_12 : decode cX6_name 12 = .ok (.if_icmp .ge 30, 3) := by decide +kernel
theorem dX6_name_15 : decode cX6_name 15 = .ok (.aload_n 0, 1) := by decide +kernel
theorem dX6_name_16 : decode cX6_name 16 = .ok (.getfield 218, 3) := by decide +kernel
theorem dX6_name_19 : decode cX6_name 19 = .ok (.iconst 2, 1) := by decide +kernel
theorem dX6_name_20 : decode cX6_name 20 = .ok (.if_icmp .ne 22, 3) := by decide +kernel
theorem dX6_name_23 : decode cX6_name 23 = .ok (.lload_n 1, 1) := by decide +kernel
theorem dX6_name_24 : decode cX6_name 24 = .ok (.bipush 8, 2) := by decide +kernel
theorem dX6_name_26 : decode cX6_name 26 = .ok (.lshl, 1) := by decide +kernel
theorem dX6_name_27 : decode cX6_name 27 = .ok (.aload_n 0, 1) := by decide +kernel
theorem dX6_name_28 : decode cX6_name 28 = .ok (.getfield 72, 3) := by decide +kernel
theorem dX6_name_31 : decode cX6_name 31 = .ok (.iload_n 3, 1) := by decide +kernel
theorem dX6_name_32 : decode cX6_name 32 = .ok (.iaload, 1) := by decide +kernel
theorem dX6_name_33 : decode cX6_name 33 = .ok (.i2l, 1) := by decide +kernel
theorem dX6_name_34 : decode cX6_name 34 = .ok (.lor, 1) := by decide +kernel
theorem dX6_name_35 : decode cX6_name 35 = .ok (.lstore_n 1, 1) := by decide +kernel
theorem dX6_name_36 : decode cX6_name 36 = .ok (.iinc 3 1, 3) := by decide +kernel
theorem dX6_name_39 : decode cX6_name 39 = .ok (.goto (-32), 3) := by decide +kernel
theorem dX6_name_42 : decode cX6_name 42 = .ok (.lload_n 1, 1) := by decide +kernel
theorem dX6_name_43 : decode cX6_name 43 = .ok (.lreturn, 1) := by decide +kernel
theorem dX6_number_0 : decode cX6_number 0 = .ok (.iconst 0, 1) := by decide +kernel
theorem dX6_number_1 : decode cX6_number 1 = .ok (.istore_n 1, 1) := by decide +kernel
theorem dX6_number_2 : decode cX6_number 2 = .ok (.aload_n 0, 1) := by decide +kernel
theorem dX6_number_3 : decode cX6_number 3 = .ok (.getfield 215, 3) := by decide +kernel
theorem dX6_number_6 : decode cX6_number 6 = .ok (.istore_n 2, 1) := by decide +kernel
theorem dX6_number_7 : decode cX6_number 7 = .ok (.iload_n 2, 1) := by decide +kernel
theorem dX6_number_8 : decode cX6_number 8 = .ok (.aload_n 0, 1) := by decide +kernel
theorem dX6_number_9 : decode cX6_number 9 = .ok (.getfield 227, 3) := by decide +kernel
theorem dX6_number_12 : decode cX6_number 12 = .ok (.if_icmp .ge 32, 3) := by decide +kernel
theorem dX6_number_15 : decode cX6_number 15 = .ok (.aload_n 0, 1) := by decide +kernel
theorem dX6_number_16 : decode cX6_number 16 = .ok (.getfield 218, 3) := by decide +kernel
theorem dX6_number_19 : decode cX6_number 19 = .ok (.iconst 3, 1) := by decide +kernel
theorem dX6_number_20 : decode cX6_number 20 = .ok (.if_icmp .ne 24, 3) := by decide +kernel
theorem dX6_number_23 : decode cX6_number 23 = .ok (.bipush 10, 2) := by decide +kernel
theorem dX6_number_25 : decode cX6_number 25 = .ok (.iload_n 1, 1) := by decide +kernel
theorem dX6_number_26 : decode cX6_number 26 = .ok (.imul, 1) := by decide +kernel
theorem dX6_number_27 : decode cX6_number 27 = .ok (.aload_n 0, 1) := by decide +kernel
theorem dX6_number_28 : decode cX6_number 28 = .ok (.getfield 72, 3) := by decide +kernel
theorem dX6_number_31 : decode cX6_number 31 = .ok (.iload_n 2, 1) := by decide +kernel
theorem dX6_number_32 : decode cX6_number 32 = .ok (.iaload, 1) := by decide +kernel
theorem dX6_number_33 : decode cX6_number 33 = .ok (.iadd, 1) := by decide +kernel
theorem dX6_number_34 : decode cX6_number 34 = .ok (.bipush 48, 2) := by decide +kernel
theorem dX6_number_36 : decode cX6_number 36 = .ok (.isub, 1) := by decide +kernel
theorem dX6_number_37 : decode cX6_number 37 = .ok (.istore_n 1, 1) := by decide +kernel
theorem dX6_number_38 : decode cX6_number 38 = .ok (.iinc 2 1, 3) := by decide +kernel
theorem dX6_number_41 : decode cX6_number 41 = .ok (.goto (-34), 3) := by decide +kernel
theorem dX6_number_44 : decode cX6_number 44 = .ok (.iload_n 1, 1) := by decide +kernel
theorem dX6_number_45 : decode cX6_number 45 = .ok (.ireturn, 1) := by decide +kernel
theorem dX6_readOne_0 : decode cX6_readOne 0 = .ok (.aload_n 0, 1) := by decide +kernel
theorem dX6_readOne_1 : decode cX6_readOne 1 = .ok (.aload_n 0, 1) := by decide +kernel
theorem dX6_readOne_2 : decode cX6_readOne 2 = .ok (.invokevirtual 243, 3) := by decide +kernel
theorem dX6_readOne_5 : decode cX6_readOne 5 = .ok (.ldc2_w 247, 3) := by decide +kernel
theorem dX6_readOne_8 : decode cX6_readOne 8 = .ok (.lcmp, 1) := by decide +kernel
theorem dX6_readOne_9 : decode cX6_readOne 9 = .ok (.ifCond .ne 7, 3) := by decide +kernel
theorem dX6_readOne_12 : decode cX6_readOne 12 = .ok (.iconst 1, 1) := by decide +kernel
theorem dX6_readOne_13 : decode cX6_readOne 13 = .ok (.goto 4, 3) := by decide +kernel
theorem dX6_readOne_16 : decode cX6_readOne 16 = .ok (.iconst 0, 1) := by decide +kernel
theorem dX6_readOne_17 : decode cX6_readOne 17 = .ok (.invokevirtual 249, 3) := by decide +kernel
theorem dX6_readOne_20 : decode cX6_readOne 20 = .ok (.aload_n 0, 1) := by decide +kernel
theorem dX6_readOne_21 : decode cX6_readOne 21 = .ok (.getfield 230, 3) := by decide +kernel
theorem dX6_readOne_24 : decode cX6_readOne 24 = .ok (.ifCond .ne 27, 3) := by decide +kernel
theorem dX6_readOne_27 : decode cX6_readOne 27 = .ok (.aload_n 0, 1) := by decide +kernel
theorem dX6_readOne_28 : decode cX6_readOne 28 = .ok (.getfield 218, 3) := by decide +kernel
theorem dX6_readOne_31 : decode cX6_readOne 31 = .ok (.iconst 3, 1) := by decide +kernel
theorem dX6_readOne_32 : decode cX6_readOne 32 = .ok (.if_icmp .ne 19, 3) := by decide +kernel
theorem dX6_readOne_35 : decode cX6_readOne 35 = .ok (.aload_n 0, 1) := by decide +kernel
theorem dX6_readOne_36 : decode cX6_readOne 36 = .ok (.aload_n 0, 1) := by decide +kernel
theorem dX6_readOne_37 : decode cX6_readOne 37 = .ok (.invokevirtual 253, 3) := by decide +kernel
theorem dX6_readOne_40 : decode cX6_readOne 40 = .ok (.invokevirtual 108, 3) := by decide +kernel
theorem dX6_readOne_43 : decode cX6_readOne 43 = .ok (.ifCond .ne 8, 3) := by decide +kernel
theorem dX6_readOne_46 : decode cX6_readOne 46 = .ok (.aload_n 0, 1) := by decide +kernel
theorem dX6_readOne_47 : decode cX6_readOne 47 = .ok (.iconst 2, 1) := by decide +kernel
theorem dX6_readOne_48 : decode cX6_readOne 48 = .ok (.invokevirtual 236, 3) := by decide +kernel
theorem dX6_readOne_51 : decode cX6_readOne 51 = .ok (.aload_n 0, 1) := by decide +kernel
theorem dX6_readOne_52 : decode cX6_readOne 52 = .ok (.invokevirtual 253, 3) := by decide +kernel
theorem dX6_readOne_55 : decode cX6_readOne 55 = .ok (.istore_n 1, 1) := by decide +kernel
theorem dX6_readOne_56 : decode cX6_readOne 56 = .ok (.aload_n 0, 1) := by decide +kernel
theorem dX6_readOne_57 : decode cX6_readOne 57 = .ok (.aload_n 0, 1) := by decide +kernel
theorem dX6_readOne_58 : decode cX6_readOne 58 = .ok (.getfield 218, 3) := by decide +kernel
theorem dX6_readOne_61 : decode cX6_readOne 61 = .ok (.iconst 3, 1) := by decide +kernel
theorem dX6_readOne_62 : decode cX6_readOne 62 = .ok (.if_icmp .ne 7, 3) := by decide +kernel
theorem dX6_readOne_65 : decode cX6_readOne 65 = .ok (.iconst 1, 1) := by decide +kernel
theorem dX6_readOne_66 : decode cX6_readOne 66 = .ok (.goto 4, 3) := by decide +kernel
theorem dX6_readOne_69 : decode cX6_readOne 69 = .ok (.iconst 0, 1) := by decide +kernel
theorem dX6_readOne_70 : decode cX6_readOne 70 = .ok (.invokevirtual 249, 3) := by decide +kernel
theorem dX6_readOne_73 : decode cX6_readOne 73 = .ok (.aload_n 0, 1) := by decide +kernel
theorem dX6_readOne_74 : decode cX6_readOne 74 = .ok (.invokevirtual 243, 3) := by decide +kernel
theorem dX6_readOne_77 : decode cX6_readOne 77 = .ok (.lstore_n 2, 1) := by decide +kernel
theorem dX6_readOne_78 : decode cX6_readOne 78 = .ok (.lload_n 2, 1) := by decide +kernel
theorem dX6_readOne_79 : decode cX6_readOne 79 = .ok (.ldc2_w 256, 3) := by decide +kernel
theorem dX6_readOne_82 : decode cX6_readOne 82 = .ok (.lcmp, 1) := by decide +kernel
theorem dX6_readOne_83 : decode cX6_readOne 83 = .ok (.ifCond .ne 7, 3) := by decide +kernel
theorem dX6_readOne_86 : decode cX6_readOne 86 = .ok (.iconst 1, 1) := by decide +kernel
theorem dX6_readOne_87 : decode cX6_readOne 87 = .ok (.goto 16, 3) := by decide +kernel
theorem dX6_readOne_90 : decode cX6_readOne 90 = .ok (.lload_n 2, 1) := by decide +kernel
theorem dX6_readOne_91 : decode cX6_readOne 91 = .ok (.ldc2_w 258, 3) := by decide +kernel
theorem dX6_readOne_94 : decode cX6_readOne 94 = .ok (.lcmp, 1) := by decide +kernel
theorem dX6_readOne_95 : decode cX6_readOne 95 = .ok (.ifCond .ne 7, 3) := by decide +kernel
theorem dX6_readOne_98 : decode cX6_readOne 98 = .ok (.iconst 2, 1) := by decide +kernel
theorem dX6_readOne_99 : decode cX6_readOne 99 = .ok (.goto 4, 3) := by decide +kernel
theorem dX6_readOne_102 : decode cX6_readOne 102 = .ok (.iconst 0, 1) := by decide +kernel
theorem dX6_readOne_103 : decode cX6_readOne 103 = .ok (.istore 4, 2) := by decide +kernel
theorem dX6_readOne_105 : decode cX6_readOne 105 = .ok (.aload_n 0, 1) := by decide +kernel
theorem dX6_readOne_106 : decode cX6_readOne 106 = .ok (.iload 4, 2) := by decide +kernel
theorem dX6_readOne_108 : decode cX6_readOne 108 = .ok (.ifCond .gt 11, 3) := by decide +kernel
theorem dX6_readOne_111 : decode cX6_readOne 111 = .ok (.lload_n 2, 1) := by decide +kernel
theorem dX6_readOne_112 : decode cX6_readOne 112 = .ok (.ldc2_w 260, 3) := by decide +kernel
theorem dX6_readOne_115 : decode cX6_readOne 115 = .ok (.lcmp, 1) := by decide +kernel
theorem dX6_readOne_116 : decode cX6_readOne 116 = .ok (.ifCond .ne 7, 3) := by decide +kernel
theorem dX6_readOne_119 : decode cX6_readOne 119 = .ok (.iconst 1, 1) := by decide +kernel
theorem dX6_readOne_120 : decode cX6_readOne 120 = .ok (.goto 4, 3) := by decide +kernel
theorem dX6_readOne_123 : decode cX6_readOne 123 = .ok (.iconst 0, 1) := by decide +kernel
theorem dX6_readOne_124 : decode cX6_readOne 124 = .ok (.invokevirtual 249, 3) := by decide +kernel
theorem dX6_readOne_127 : decode cX6_readOne 127 = .ok (.iload 4, 2) := by decide +kernel
theorem dX6_readOne_129 : decode cX6_readOne 129 = .ok (.iconst 2, 1) := by decide +kernel
theorem dX6_readOne_130 : decode cX6_readOne 130 = .ok (.if_icmp .ne 10, 3) := by decide +kernel
theorem dX6_readOne_133 : decode cX6_readOne 133 = .ok (.aload_n 0, 1) := by decide +kernel
theorem dX6_readOne_134 : decode cX6_readOne 134 = .ok (.invokevirtual 253, 3) := by decide +kernel
theorem dX6_readOne_137 : decode cX6_readOne 137 = .ok (.goto 4, 3) := by decide +kernel
theorem dX6_readOne_140 : decode cX6_readOne 140 = .ok (.iconst 0, 1) := by decide +kernel
theorem dX6_readOne_141 : decode cX6_readOne 141 = .ok (.istore 5, 2) := by decide +kernel
theorem dX6_readOne_143 : decode cX6_readOne 143 = .ok (.iload 4, 2) := by decide +kernel
theorem dX6_readOne_145 : decode cX6_readOne 145 = .ok (.iconst 2, 1) := by decide +kernel
theorem dX6_readOne_146 : decode cX6_readOne 146 = .ok (.if_icmp .ne 30, 3) := by decide +kernel
theorem dX6_readOne_149 : decode cX6_readOne 149 = .ok (.aload_n 0, 1) := by decide +kernel
theorem dX6_readOne_150 : decode cX6_readOne 150 = .ok (.aload_n 0, 1) := by decide +kernel
theorem dX6_readOne_151 : decode cX6_readOne 151 = .ok (.getfield 218, 3) := by decide +kernel
theorem dX6_readOne_154 : decode cX6_readOne 154 = .ok (.iconst 3, 1) := by decide +kernel
theorem dX6_readOne_155 : decode cX6_readOne 155 = .ok (.if_icmp .ne 7, 3) := by decide +kernel
theorem dX6_readOne_158 : decode cX6_readOne 158 = .ok (.iconst 1, 1) := by decide +kernel
theorem dX6_readOne_159 : decode cX6_readOne 159 = .ok (.goto 4, 3) := by decide +kernel
theorem dX6_readOne_162 : decode cX6_readOne 162 = .ok (.iconst 0, 1) := by decide +kernel
theorem dX6_readOne_163 : decode cX6_readOne 163 = .ok (.invokevirtual 249, 3) := by decide +kernel
theorem dX6_readOne_166 : decode cX6_readOne 166 = .ok (.aload_n 0, 1) := by decide +kernel
theorem dX6_readOne_167 : decode cX6_readOne 167 = .ok (.aload_n 0, 1) := by decide +kernel
theorem dX6_readOne_168 : decode cX6_readOne 168 = .ok (.bipush 64, 2) := by decide +kernel
theorem dX6_readOne_170 : decode cX6_readOne 170 = .ok (.invokevirtual 262, 3) := by decide +kernel
theorem dX6_readOne_173 : decode cX6_readOne 173 = .ok (.invokevirtual 249, 3) := by decide +kernel
theorem dX6_readOne_176 : decode cX6_readOne 176 = .ok (.iload 4, 2) := by decide +kernel
theorem dX6_readOne_178 : decode cX6_readOne 178 = .ok (.ifCond .le 10, 3) := by decide +kernel
theorem dX6_readOne_181 : decode cX6_readOne 181 = .ok (.aload_n 0, 1) := by decide +kernel
theorem dX6_readOne_182 : decode cX6_readOne 182 = .ok (.invokevirtual 253, 3) := by decide +kernel
theorem dX6_readOne_185 : decode cX6_readOne 185 = .ok (.goto 4, 3) := by decide +kernel
theorem dX6_readOne_188 : decode cX6_readOne 188 = .ok (.iconst 0, 1) := by decide +kernel
theorem dX6_readOne_189 : decode cX6_readOne 189 = .ok (.istore 6, 2) := by decide +kernel
theorem dX6_readOne_191 : decode cX6_readOne 191 = .ok (.iload 4, 2) := by decide +kernel
theorem dX6_readOne_193 : decode cX6_readOne 193 = .ok (.ifCond .le 20, 3) := by decide +kernel
theorem dX6_readOne_196 : decode cX6_readOne 196 = .ok (.aload_n 0, 1) := by decide +kernel
theorem dX6_readOne_197 : decode cX6_readOne 197 = .ok (.aload_n 0, 1) := by decide +kernel
theorem dX6_readOne_198 : decode cX6_readOne 198 = .ok (.getfield 218, 3) := by decide +kernel
theorem dX6_readOne_201 : decode cX6_readOne 201 = .ok (.iconst 3, 1) := by decide +kernel
theorem dX6_readOne_202 : decode cX6_readOne 202 = .ok (.if_icmp .ne 7, 3) := by decide +kernel
theorem dX6_readOne_205 : decode cX6_readOne 205 = .ok (.iconst 1, 1) := by decide +kernel
theorem dX6_readOne_206 : decode cX6_readOne 206 = .ok (.goto 4, 3) := by decide +kernel
theorem dX6_readOne_209 : decode cX6_readOne 209 = .ok (.iconst 0, 1) := by decide +kernel
theorem dX6_readOne_210 : decode cX6_readOne 210 = .ok (.invokevirtual 249, 3) := by decide +kernel
theorem dX6_readOne_213 : decode cX6_readOne 213 = .ok (.aload_n 0, 1) := by decide +kernel
theorem dX6_readOne_214 : decode cX6_readOne 214 = .ok (.aload_n 0, 1) := by decide +kernel
theorem dX6_readOne_215 : decode cX6_readOne 215 = .ok (.bipush 59, 2) := by decide +kernel
theorem dX6_readOne_217 : decode cX6_readOne 217 = .ok (.invokevirtual 262, 3) := by decide +kernel
theorem dX6_readOne_220 : decode cX6_readOne 220 = .ok (.invokevirtual 249, 3) := by decide +kernel
theorem dX6_readOne_223 : decode cX6_readOne 223 = .ok (.aload_n 0, 1) := by decide +kernel
theorem dX6_readOne_224 : decode cX6_readOne 224 = .ok (.getfield 230, 3) := by decide +kernel
theorem dX6_readOne_227 : decode cX6_readOne 227 = .ok (.ifCond .ne 56, 3) := by decide +kernel
theorem dX6_readOne_230 : decode cX6_readOne 230 = .ok (.aload_n 0, 1) := by decide +kernel
theorem dX6_readOne_231 : decode cX6_readOne 231 = .ok (.getfield 75, 3) := by decide +kernel
theorem dX6_readOne_234 : decode cX6_readOne 234 = .ok (.aload_n 0, 1) := by decide +kernel
theorem dX6_readOne_235 : decode cX6_readOne 235 = .ok (.getfield 265, 3) := by decide +kernel
theorem dX6_readOne_238 : decode cX6_readOne 238 = .ok (.iload_n 1, 1) := by decide +kernel
theorem dX6_readOne_239 : decode cX6_readOne 239 = .ok (.iastore, 1) := by decide +kernel
theorem dX6_readOne_240 : decode cX6_readOne 240 = .ok (.aload_n 0, 1) := by decide +kernel
theorem dX6_readOne_241 : decode cX6_readOne 241 = .ok (.getfield 78, 3) := by decide +kernel
theorem dX6_readOne_244 : decode cX6_readOne 244 = .ok (.aload_n 0, 1) := by decide +kernel
theorem dX6_readOne_245 : decode cX6_readOne 245 = .ok (.getfield 265, 3) := by decide +kernel
theorem dX6_readOne_248 : decode cX6_readOne 248 = .ok (.iload 4, 2) := by decide +kernel
theorem dX6_readOne_250 : decode cX6_readOne 250 = .ok (.iastore, 1) := by decide +kernel
theorem dX6_readOne_251 : decode cX6_readOne 251 = .ok (.aload_n 0, 1) := by decide +kernel
theorem dX6_readOne_252 : decode cX6_readOne 252 = .ok (.getfield 81, 3) := by decide +kernel
theorem dX6_readOne_255 : decode cX6_readOne 255 = .ok (.aload_n 0, 1) := by decide +kernel
theorem dX6_readOne_256 : decode cX6_readOne 256 = .ok (.getfield 265, 3) := by decide +kernel
theorem dX6_readOne_259 : decode cX6_readOne 259 = .ok (.iload 5, 2) := by decide +kernel
theorem dX6_readOne_261 : decode cX6_readOne 261 = .ok (.iastore, 1) := by decide +kernel
theorem dX6_readOne_262 : decode cX6_readOne 262 = .ok (.aload_n 0, 1) := by decide +kernel
theorem dX6_readOne_263 : decode cX6_readOne 263 = .ok (.getfield 84, 3) := by decide +kernel
theorem dX6_readOne_266 : decode cX6_readOne 266 = .ok (.aload_n 0, 1) := by decide +kernel
theorem dX6_readOne_267 : decode cX6_readOne 267 = .ok (.getfield 265, 3) := by decide +kernel
theorem dX6_readOne_270 : decode cX6_readOne 270 = .ok (.iload 6, 2) := by decide +kernel
theorem dX6_readOne_272 : decode cX6_readOne 272 = .ok (.iastore, 1) := by decide +kernel
theorem dX6_readOne_273 : decode cX6_readOne 273 = .ok (.aload_n 0, 1) := by decide +kernel
theorem dX6_readOne_274 : decode cX6_readOne 274 = .ok (.dup, 1) := by decide +kernel
theorem dX6_readOne_275 : decode cX6_readOne 275 = .ok (.getfield 265, 3) := by decide +kernel
theorem dX6_readOne_278 : decode cX6_readOne 278 = .ok (.iconst 1, 1) := by decide +kernel
theorem dX6_readOne_279 : decode cX6_readOne 279 = .ok (.iadd, 1) := by decide +kernel
theorem dX6_readOne_280 : decode cX6_readOne 280 = .ok (.putfield 265, 3) := by decide +kernel
theorem dX6_readOne_283 : decode cX6_readOne 283 = .ok (.return_, 1) := by decide +kernel
theorem dX6_plans_0 : decode cX6_plans 0 = .ok (.aload_n 0, 1) := by decide +kernel
theorem dX6_plans_1 : decode cX6_plans 1 = .ok (.iconst 0, 1) := by decide +kernel
theorem dX6_plans_2 : decode cX6_plans 2 = .ok (.putfield 90, 3) := by decide +kernel
theorem dX6_plans_5 : decode cX6_plans 5 = .ok (.aload_n 0, 1) := by decide +kernel
theorem dX6_plans_6 : decode cX6_plans 6 = .ok (.aload_n 0, 1) := by decide +kernel
theorem dX6_plans_7 : decode cX6_plans 7 = .ok (.getfield 201, 3) := by decide +kernel
theorem dX6_plans_10 : decode cX6_plans 10 = .ok (.putfield 206, 3) := by decide +kernel
theorem dX6_plans_13 : decode cX6_plans 13 = .ok (.aload_n 0, 1) := by decide +kernel
theorem dX6_plans_14 : decode cX6_plans 14 = .ok (.iconst 0, 1) := by decide +kernel
theorem dX6_plans_15 : decode cX6_plans 15 = .ok (.putfield 201, 3) := by decide +kernel
theorem dX6_plans_18 : decode cX6_plans 18 = .ok (.aload_n 0, 1) := by decide +kernel
theorem dX6_plans_19 : decode cX6_plans 19 = .ok (.iconst 0, 1) := by decide +kernel
theorem dX6_plans_20 : decode cX6_plans 20 = .ok (.putfield 209, 3) := by decide +kernel
theorem dX6_plans_23 : decode cX6_plans 23 = .ok (.aload_n 0, 1) := by decide +kernel
theorem dX6_plans_24 : decode cX6_plans 24 = .ok (.iconst 0, 1) := by decide +kernel
theorem dX6_plans_25 : decode cX6_plans 25 = .ok (.putfield 230, 3) := by decide +kernel
theorem dX6_plans_28 : decode cX6_plans 28 = .ok (.aload_n 0, 1) := by decide +kernel
theorem dX6_plans_29 : decode cX6_plans 29 = .ok (.iconst 0, 1) := by decide +kernel
theorem dX6_plans_30 : decode cX6_plans 30 = .ok (.putfield 265, 3) := by decide +kernel
theorem dX6_plans_33 : decode cX6_plans 33 = .ok (.aload_n 0, 1) := by decide +kernel
theorem dX6_plans_34 : decode cX6_plans 34 = .ok (.invokevirtual 240, 3) := by decide +kernel
theorem dX6_plans_37 : decode cX6_plans 37 = .ok (.aload_n 0, 1) := by decide +kernel
theorem dX6_plans_38 : decode cX6_plans 38 = .ok (.getfield 230, 3) := by decide +kernel
theorem dX6_plans_41 : decode cX6_plans 41 = .ok (.ifCond .ne 18, 3) := by decide +kernel
theorem dX6_plans_44 : decode cX6_plans 44 = .ok (.aload_n 0, 1) := by decide +kernel
theorem dX6_plans_45 : decode cX6_plans 45 = .ok (.getfield 218, 3) := by decide +kernel
theorem dX6_plans_48 : decode cX6_plans 48 = .ok (.iconst 1, 1) := by decide +kernel
theorem dX6_plans_49 : decode cX6_plans 49 = .ok (.if_icmp .eq 10, 3) := by decide +kernel
theorem dX6_plans_52 : decode cX6_plans 52 = .ok (.aload_n 0, 1) := by decide +kernel
theorem dX6_plans_53 : decode cX6_plans 53 = .ok (.invokevirtual 268, 3) := by decide +kernel
theorem dX6_plans_56 : decode cX6_plans 56 = .ok (.goto (-19), 3) := by decide +kernel
theorem dX6_plans_59 : decode cX6_plans 59 = .ok (.aload_n 0, 1) := by decide +kernel
theorem dX6_plans_60 : decode cX6_plans 60 = .ok (.getfield 230, 3) := by decide +kernel
theorem dX6_plans_63 : decode cX6_plans 63 = .ok (.ifCond .le 20, 3) := by decide +kernel
theorem dX6_plans_66 : decode cX6_plans 66 = .ok (.aload_n 0, 1) := by decide +kernel
theorem dX6_plans_67 : decode cX6_plans 67 = .ok (.aload_n 0, 1) := by decide +kernel
theorem dX6_plans_68 : decode cX6_plans 68 = .ok (.getfield 230, 3) := by decide +kernel
theorem dX6_plans_71 : decode cX6_plans 71 = .ok (.putfield 271, 3) := by decide +kernel
theorem dX6_plans_74 : decode cX6_plans 74 = .ok (.ldc_w 274, 3) := by decide +kernel
theorem dX6_plans_77 : decode cX6_plans 77 = .ok (.aload_n 0, 1) := by decide +kernel
theorem dX6_plans_78 : decode cX6_plans 78 = .ok (.getfield 233, 3) := by decide +kernel
theorem dX6_plans_81 : decode cX6_plans 81 = .ok (.isub, 1) := by decide +kernel
theorem dX6_plans_82 : decode cX6_plans 82 = .ok (.ireturn, 1) := by decide +kernel
theorem dX6_plans_83 : decode cX6_plans 83 = .ok (.iconst 0, 1) := by decide +kernel
theorem dX6_plans_84 : decode cX6_plans 84 = .ok (.istore_n 1, 1) := by decide +kernel
theorem dX6_plans_85 : decode cX6_plans 85 = .ok (.iload_n 1, 1) := by decide +kernel
theorem dX6_plans_86 : decode cX6_plans 86 = .ok (.aload_n 0, 1) := by decide +kernel
theorem dX6_plans_87 : decode cX6_plans 87 = .ok (.getfield 265, 3) := by decide +kernel
theorem dX6_plans_90 : decode cX6_plans 90 = .ok (.if_icmp .ge 52, 3) := by decide +kernel
theorem dX6_plans_93 : decode cX6_plans 93 = .ok (.aload_n 0, 1) := by decide +kernel
theorem dX6_plans_94 : decode cX6_plans 94 = .ok (.getfield 75, 3) := by decide +kernel
theorem dX6_plans_97 : decode cX6_plans 97 = .ok (.iload_n 1, 1) := by decide +kernel
theorem dX6_plans_98 : decode cX6_plans 98 = .ok (.iaload, 1) := by decide +kernel
theorem dX6_plans_99 : decode cX6_plans 99 = .ok (.istore_n 2, 1) := by decide +kernel
theorem dX6_plans_100 : decode cX6_plans 100 = .ok (.aload_n 0, 1) := by decide +kernel
theorem dX6_plans_101 : decode cX6_plans 101 = .ok (.getfield 44, 3) := by decide +kernel
theorem dX6_plans_104 : decode cX6_plans 104 = .ok (.iload_n 2, 1) := by decide +kernel
theorem dX6_plans_105 : decode cX6_plans 105 = .ok (.aload_n 0, 1) := by decide +kernel
theorem dX6_plans_106 : decode cX6_plans 106 = .ok (.getfield 78, 3) := by decide +kernel
theorem dX6_plans_109 : decode cX6_plans 109 = .ok (.iload_n 1, 1) := by decide +kernel
theorem dX6_plans_110 : decode cX6_plans 110 = .ok (.iaload, 1) := by decide +kernel
theorem dX6_plans_111 : decode cX6_plans 111 = .ok (.iastore, 1) := by decide +kernel
theorem dX6_plans_112 : decode cX6_plans 112 = .ok (.aload_n 0, 1) := by decide +kernel
theorem dX6_plans_113 : decode cX6_plans 113 = .ok (.getfield 47, 3) := by decide +kernel
theorem dX6_plans_116 : decode cX6_plans 116 = .ok (.iload_n 2, 1) := by decide +kernel
theorem dX6_plans_117 : decode cX6_plans 117 = .ok (.aload_n 0, 1) := by decide +kernel
theorem dX6_plans_118 : decode cX6_plans 118 = .ok (.getfield 81, 3) := by decide +kernel
theorem dX6_plans_121 : decode cX6_plans 121 = .ok (.iload_n 1, 1) := by decide +kernel
theorem dX6_plans_122 : decode cX6_plans 122 = .ok (.iaload, 1) := by decide +kernel
theorem dX6_plans_123 : decode cX6_plans 123 = .ok (.iastore, 1) := by decide +kernel
theorem dX6_plans_124 : decode cX6_plans 124 = .ok (.aload_n 0, 1) := by decide +kernel
theorem dX6_plans_125 : decode cX6_plans 125 = .ok (.getfield 50, 3) := by decide +kernel
theorem dX6_plans_128 : decode cX6_plans 128 = .ok (.iload_n 2, 1) := by decide +kernel
theorem dX6_plans_129 : decode cX6_plans 129 = .ok (.aload_n 0, 1) := by decide +kernel
theorem dX6_plans_130 : decode cX6_plans 130 = .ok (.getfield 84, 3) := by decide +kernel
theorem dX6_plans_133 : decode cX6_plans 133 = .ok (.iload_n 1, 1) := by decide +kernel
theorem dX6_plans_134 : decode cX6_plans 134 = .ok (.iaload, 1) := by decide +kernel
theorem dX6_plans_135 : decode cX6_plans 135 = .ok (.iastore, 1) := by decide +kernel
theorem dX6_plans_136 : decode cX6_plans 136 = .ok (.iinc 1 1, 3) := by decide +kernel
theorem dX6_plans_139 : decode cX6_plans 139 = .ok (.goto (-54), 3) := by decide +kernel
theorem dX6_plans_142 : decode cX6_plans 142 = .ok (.aload_n 0, 1) := by decide +kernel
theorem dX6_plans_143 : decode cX6_plans 143 = .ok (.getfield 265, 3) := by decide +kernel
theorem dX6_plans_146 : decode cX6_plans 146 = .ok (.ireturn, 1) := by decide +kernel
theorem dX6_fault_0 : decode cX6_fault 0 = .ok (.aload_n 0, 1) := by decide +kernel
theorem dX6_fault_1 : decode cX6_fault 1 = .ok (.iconst 0, 1) := by decide +kernel
theorem dX6_fault_2 : decode cX6_fault 2 = .ok (.putfield 90, 3) := by decide +kernel
theorem dX6_fault_5 : decode cX6_fault 5 = .ok (.aload_n 0, 1) := by decide +kernel
theorem dX6_fault_6 : decode cX6_fault 6 = .ok (.getfield 271, 3) := by decide +kernel
theorem dX6_fault_9 : decode cX6_fault 9 = .ok (.ireturn, 1) := by decide +kernel
theorem dX6_kindOf_0 : decode cX6_kindOf 0 = .ok (.aload_n 0, 1) := by decide +kernel
theorem dX6_kindOf_1 : decode cX6_kindOf 1 = .ok (.getfield 31, 3) := by decide +kernel
theorem dX6_kindOf_4 : decode cX6_kindOf 4 = .ok (.iload_n 1, 1) := by decide +kernel
theorem dX6_kindOf_5 : decode cX6_kindOf 5 = .ok (.iaload, 1) := by decide +kernel
theorem dX6_kindOf_6 : decode cX6_kindOf 6 = .ok (.iconst 1, 1) := by decide +kernel
theorem dX6_kindOf_7 : decode cX6_kindOf 7 = .ok (.if_icmp .ne 7, 3) := by decide +kernel
theorem dX6_kindOf_10 : decode cX6_kindOf 10 = .ok (.iconst 3, 1) := by decide +kernel
theorem dX6_kindOf_11 : decode cX6_kindOf 11 = .ok (.goto 57, 3) := by decide +kernel
theorem dX6_kindOf_14 : decode cX6_kindOf 14 = .ok (.aload_n 0, 1) := by decide +kernel
theorem dX6_kindOf_15 : decode cX6_kindOf 15 = .ok (.getfield 28, 3) := by decide +kernel
theorem dX6_kindOf_18 : decode cX6_kindOf 18 = .ok (.iload_n 1, 1) := by decide +kernel
theorem dX6_kindOf_19 : decode cX6_kindOf 19 = .ok (.iaload, 1) := by decide +kernel
theorem dX6_kindOf_20 : decode cX6_kindOf 20 = .ok (.iconst 3, 1) := by decide +kernel
theorem dX6_kindOf_21 : decode cX6_kindOf 21 = .ok (.if_icmp .lt 12, 3) := by decide +kernel
theorem dX6_kindOf_24 : decode cX6_kindOf 24 = .ok (.aload_n 0, 1) := by decide +kernel
theorem dX6_kindOf_25 : decode cX6_kindOf 25 = .ok (.getfield 34, 3) := by decide +kernel
theorem dX6_kindOf_28 : decode cX6_kindOf 28 = .ok (.iload_n 1, 1) := by decide +kernel
theorem dX6_kindOf_29 : decode cX6_kindOf 29 = .ok (.baload, 1) := by decide +kernel
theorem dX6_kindOf_30 : decode cX6_kindOf 30 = .ok (.ifCond .eq 7, 3) := by decide +kernel
theorem dX6_kindOf_33 : decode cX6_kindOf 33 = .ok (.iconst 0, 1) := by decide +kernel
theorem dX6_kindOf_34 : decode cX6_kindOf 34 = .ok (.goto 34, 3) := by decide +kernel
theorem dX6_kindOf_37 : decode cX6_kindOf 37 = .ok (.aload_n 0, 1) := by decide +kernel
theorem dX6_kindOf_38 : decode cX6_kindOf 38 = .ok (.getfield 19, 3) := by decide +kernel
theorem dX6_kindOf_41 : decode cX6_kindOf 41 = .ok (.iconst 4, 1) := by decide +kernel
theorem dX6_kindOf_42 : decode cX6_kindOf 42 = .ok (.iload_n 1, 1) := by decide +kernel
theorem dX6_kindOf_43 : decode cX6_kindOf 43 = .ok (.imul, 1) := by decide +kernel
theorem dX6_kindOf_44 : decode cX6_kindOf 44 = .ok (.iconst 1, 1) := by decide +kernel
theorem dX6_kindOf_45 : decode cX6_kindOf 45 = .ok (.iadd, 1) := by decide +kernel
theorem dX6_kindOf_46 : decode cX6_kindOf 46 = .ok (.iaload, 1) := by decide +kernel
theorem dX6_kindOf_47 : decode cX6_kindOf 47 = .ok (.ifCond .ne 20, 3) := by decide +kernel
theorem dX6_kindOf_50 : decode cX6_kindOf 50 = .ok (.aload_n 0, 1) := by decide +kernel
theorem dX6_kindOf_51 : decode cX6_kindOf 51 = .ok (.getfield 19, 3) := by decide +kernel
theorem dX6_kindOf_54 : decode cX6_kindOf 54 = .ok (.iconst 4, 1) := by decide +kernel
theorem dX6_kindOf_55 : decode cX6_kindOf 55 = .ok (.iload_n 1, 1) := by decide +kernel
theorem dX6_kindOf_56 : decode cX6_kindOf 56 = .ok (.imul, 1) := by decide +kernel
theorem dX6_kindOf_57 : decode cX6_kindOf 57 = .ok (.iconst 3, 1) := by decide +kernel
theorem dX6_kindOf_58 : decode cX6_kindOf 58 = .ok (.iadd, 1) := by decide +kernel
theorem dX6_kindOf_59 : decode cX6_kindOf 59 = .ok (.iaload, 1) := by decide +kernel
theorem dX6_kindOf_60 : decode cX6_kindOf 60 = .ok (.ifCond .ne 7, 3) := by decide +kernel
theorem dX6_kindOf_63 : decode cX6_kindOf 63 = .ok (.iconst 2, 1) := by decide +kernel
theorem dX6_kindOf_64 : decode cX6_kindOf 64 = .ok (.goto 4, 3) := by decide +kernel
theorem dX6_kindOf_67 : decode cX6_kindOf 67 = .ok (.iconst 1, 1) := by decide +kernel
theorem dX6_kindOf_68 : decode cX6_kindOf 68 = .ok (.ireturn, 1) := by decide +kernel
theorem dX6_kind_0 : decode cX6_kind 0 = .ok (.aload_n 0, 1) := by decide +kernel
theorem dX6_kind_1 : decode cX6_kind 1 = .ok (.iconst 0, 1) := by decide +kernel
theorem dX6_kind_2 : decode cX6_kind 2 = .ok (.putfield 90, 3) := by decide +kernel
theorem dX6_kind_5 : decode cX6_kind 5 = .ok (.aload_n 0, 1) := by decide +kernel
theorem dX6_kind_6 : decode cX6_kind 6 = .ok (.iload_n 1, 1) := by decide +kernel
theorem dX6_kind_7 : decode cX6_kind 7 = .ok (.invokevirtual 108, 3) := by decide +kernel
theorem dX6_kind_10 : decode cX6_kind 10 = .ok (.ifCond .eq 11, 3) := by decide +kernel
theorem dX6_kind_13 : decode cX6_kind 13 = .ok (.aload_n 0, 1) := by decide +kernel
theorem dX6_kind_14 : decode cX6_kind 14 = .ok (.iload_n 1, 1) := by decide +kernel
theorem dX6_kind_15 : decode cX6_kind 15 = .ok (.invokevirtual 275, 3) := by decide +kernel
theorem dX6_kind_18 : decode cX6_kind 18 = .ok (.goto 5, 3) := by decide +kernel
theorem dX6_kind_21 : decode cX6_kind 21 = .ok (.ldc 106, 2) := by decide +kernel
theorem dX6_kind_23 : decode cX6_kind 23 = .ok (.ireturn, 1) := by decide +kernel
theorem dX6_as_0 : decode cX6_as 0 = .ok (.aload_n 0, 1) := by decide +kernel
theorem dX6_as_1 : decode cX6_as 1 = .ok (.iconst 0, 1) := by decide +kernel
theorem dX6_as_2 : decode cX6_as 2 = .ok (.putfield 90, 3) := by decide +kernel
theorem dX6_as_5 : decode cX6_as 5 = .ok (.aload_n 0, 1) := by decide +kernel
theorem dX6_as_6 : decode cX6_as 6 = .ok (.iload_n 1, 1) := by decide +kernel
theorem dX6_as_7 : decode cX6_as 7 = .ok (.invokevirtual 108, 3) := by decide +kernel
theorem dX6_as_10 : decode cX6_as 10 = .ok (.ifCond .eq 15, 3) := by decide +kernel
theorem dX6_as_13 : decode cX6_as 13 = .ok (.iload_n 2, 1) := by decide +kernel
theorem dX6_as_14 : decode cX6_as 14 = .ok (.i2l, 1) := by decide +kernel
theorem dX6_as_15 : decode cX6_as 15 = .ok (.lconst 0, 1) := by decide +kernel
theorem dX6_as_16 : decode cX6_as 16 = .ok (.ldc2_w 278, 3) := by decide +kernel
theorem dX6_as_19 : decode cX6_as 19 = .ok (.invokestatic 96, 3) := by decide +kernel
theorem dX6_as_22 : decode cX6_as 22 = .ok (.ifCond .ne 6, 3) := by decide +kernel
theorem dX6_as_25 : decode cX6_as 25 = .ok (.ldc 106, 2) := by decide +kernel
theorem dX6_as_27 : decode cX6_as 27 = .ok (.ireturn, 1) := by decide +kernel
theorem dX6_as_28 : decode cX6_as 28 = .ok (.aload_n 0, 1) := by decide +kernel
theorem dX6_as_29 : decode cX6_as 29 = .ok (.iload_n 1, 1) := by decide +kernel
theorem dX6_as_30 : decode cX6_as 30 = .ok (.invokevirtual 275, 3) := by decide +kernel
theorem dX6_as_33 : decode cX6_as 33 = .ok (.istore_n 3, 1) := by decide +kernel
theorem dX6_as_34 : decode cX6_as 34 = .ok (.iload_n 2, 1) := by decide +kernel
theorem dX6_as_35 : decode cX6_as 35 = .ok (.ifCond .eq 18, 3) := by decide +kernel
theorem dX6_as_38 : decode cX6_as 38 = .ok (.iload_n 3, 1) := by decide +kernel
theorem dX6_as_39 : decode cX6_as 39 = .ok (.iload_n 2, 1) := by decide +kernel
theorem dX6_as_40 : decode cX6_as 40 = .ok (.if_icmp .eq 13, 3) := by decide +kernel
theorem dX6_as_43 : decode cX6_as 43 = .ok (.iload_n 2, 1) := by decide +kernel
theorem dX6_as_44 : decode cX6_as 44 = .ok (.iconst 1, 1) := by decide +kernel
theorem dX6_as_45 : decode cX6_as 45 = .ok (.if_icmp .ne 17, 3) := by decide +kernel
theorem dX6_as_48 : decode cX6_as 48 = .ok (.iload_n 3, 1) := by decide +kernel
theorem dX6_as_49 : decode cX6_as 49 = .ok (.iconst 2, 1) := by decide +kernel
theorem dX6_as_50 : decode cX6_as 50 = .ok (.if_icmp .ne 12, 3) := by decide +kernel
theorem dX6_as_53 : decode cX6_as 53 = .ok (.aload_n 0, 1) := by decide +kernel
theorem dX6_as_54 : decode cX6_as 54 = .ok (.getfield 16, 3) := by decide +kernel
theorem dX6_as_57 : decode cX6_as 57 = .ok (.iload_n 1, 1) := by decide +kernel
theorem dX6_as_58 : decode cX6_as 58 = .ok (.iaload, 1) := by decide +kernel
theorem dX6_as_59 : decode cX6_as 59 = .ok (.goto 6, 3) := by decide +kernel
theorem dX6_as_62 : decode cX6_as 62 = .ok (.ldc_w 280, 3) := by decide +kernel
theorem dX6_as_65 : decode cX6_as 65 = .ok (.ireturn, 1) := by decide +kernel
theorem dX6_began_0 : decode cX6_began 0 = .ok (.aload_n 0, 1) := by decide +kernel
theorem dX6_began_1 : decode cX6_began 1 = .ok (.getfield 281, 3) := by decide +kernel
theorem dX6_began_4 : decode cX6_began 4 = .ok (.bipush 16, 2) := by decide +kernel
theorem dX6_began_6 : decode cX6_began 6 = .ok (.if_icmp .ge 23, 3) := by decide +kernel
theorem dX6_began_9 : decode cX6_began 9 = .ok (.aload_n 0, 1) := by decide +kernel
theorem dX6_began_10 : decode cX6_began 10 = .ok (.getfield 87, 3) := by decide +kernel
theorem dX6_began_13 : decode cX6_began 13 = .ok (.aload_n 0, 1) := by decide +kernel
theorem dX6_began_14 : decode cX6_began 14 = .ok (.getfield 281, 3) := by decide +kernel
theorem dX6_began_17 : decode cX6_began 17 = .ok (.iload_n 1, 1) := by decide +kernel
theorem dX6_began_18 : decode cX6_began 18 = .ok (.iastore, 1) := by decide +kernel
theorem dX6_began_19 : decode cX6_began 19 = .ok (.aload_n 0, 1) := by decide +kernel
theorem dX6_began_20 : decode cX6_began 20 = .ok (.dup, 1) := by decide +kernel
theorem dX6_began_21 : decode cX6_began 21 = .ok (.getfield 281, 3) := by decide +kernel
theorem dX6_began_24 : decode cX6_began 24 = .ok (.iconst 1, 1) := by decide +kernel
theorem dX6_began_25 : decode cX6_began 25 = .ok (.iadd, 1) := by decide +kernel
theorem dX6_began_26 : decode cX6_began 26 = .ok (.putfield 281, 3) := by decide +kernel
theorem dX6_began_29 : decode cX6_began 29 = .ok (.return_, 1) := by decide +kernel
theorem dX6_weight_0 : decode cX6_weight 0 = .ok (.aload_n 0, 1) := by decide +kernel
theorem dX6_weight_1 : decode cX6_weight 1 = .ok (.iload_n 1, 1) := by decide +kernel
theorem dX6_weight_2 : decode cX6_weight 2 = .ok (.invokevirtual 275, 3) := by decide +kernel
theorem dX6_weight_5 : decode cX6_weight 5 = .ok (.istore_n 2, 1) := by decide +kernel
theorem dX6_weight_6 : decode cX6_weight 6 = .ok (.iload_n 2, 1) := by decide +kernel
theorem dX6_weight_7 : decode cX6_weight 7 = .ok (.iconst 1, 1) := by decide +kernel
theorem dX6_weight_8 : decode cX6_weight 8 = .ok (.if_icmp .eq 8, 3) := by decide +kernel
theorem dX6_weight_11 : decode cX6_weight 11 = .ok (.iload_n 2, 1) := by decide +kernel
theorem dX6_weight_12 : decode cX6_weight 12 = .ok (.iconst 2, 1) := by decide +kernel
theorem dX6_weight_13 : decode cX6_weight 13 = .ok (.if_icmp .ne 7, 3) := by decide +kernel
theorem dX6_weight_16 : decode cX6_weight 16 = .ok (.iconst 1, 1) := by decide +kernel
theorem dX6_weight_17 : decode cX6_weight 17 = .ok (.goto 4, 3) := by decide +kernel
theorem dX6_weight_20 : decode cX6_weight 20 = .ok (.iconst 0, 1) := by decide +kernel
theorem dX6_weight_21 : decode cX6_weight 21 = .ok (.istore_n 3, 1) := by decide +kernel
theorem dX6_weight_22 : decode cX6_weight 22 = .ok (.iload_n 2, 1) := by decide +kernel
theorem dX6_weight_23 : decode cX6_weight 23 = .ok (.iconst 3, 1) := by decide +kernel
theorem dX6_weight_24 : decode cX6_weight 24 = .ok (.if_icmp .ne 9, 3) := by decide +kernel
theorem dX6_weight_27 : decode cX6_weight 27 = .ok (.aload_n 0, 1) := by decide +kernel
theorem dX6_weight_28 : decode cX6_weight 28 = .ok (.bipush 13, 2) := by decide +kernel
theorem dX6_weight_30 : decode cX6_weight 30 = .ok (.invokevirtual 284, 3) := by decide +kernel
theorem dX6_weight_33 : decode cX6_weight 33 = .ok (.iload_n 2, 1) := by decide +kernel
theorem dX6_weight_34 : decode cX6_weight 34 = .ok (.iconst 2, 1) := by decide +kernel
theorem dX6_weight_35 : decode cX6_weight 35 = .ok (.if_icmp .ne 9, 3) := by decide +kernel
theorem dX6_weight_38 : decode cX6_weight 38 = .ok (.aload_n 0, 1) := by decide +kernel
theorem dX6_weight_39 : decode cX6_weight 39 = .ok (.bipush 12, 2) := by decide +kernel
theorem dX6_weight_41 : decode cX6_weight 41 = .ok (.invokevirtual 284, 3) := by decide +kernel
theorem dX6_weight_44 : decode cX6_weight 44 = .ok (.iload_n 3, 1) := by decide +kernel
theorem dX6_weight_45 : decode cX6_weight 45 = .ok (.ifCond .eq 9, 3) := by decide +kernel
theorem dX6_weight_48 : decode cX6_weight 48 = .ok (.aload_n 0, 1) := by decide +kernel
theorem dX6_weight_49 : decode cX6_weight 49 = .ok (.bipush 11, 2) := by decide +kernel
theorem dX6_weight_51 : decode cX6_weight 51 = .ok (.invokevirtual 284, 3) := by decide +kernel
theorem dX6_weight_54 : decode cX6_weight 54 = .ok (.aload_n 0, 1) := by decide +kernel
theorem dX6_weight_55 : decode cX6_weight 55 = .ok (.bipush 10, 2) := by decide +kernel
theorem dX6_weight_57 : decode cX6_weight 57 = .ok (.invokevirtual 284, 3) := by decide +kernel
theorem dX6_weight_60 : decode cX6_weight 60 = .ok (.aload_n 0, 1) := by decide +kernel
theorem dX6_weight_61 : decode cX6_weight 61 = .ok (.getfield 22, 3) := by decide +kernel
theorem dX6_weight_64 : decode cX6_weight 64 = .ok (.iload_n 1, 1) := by decide +kernel
theorem dX6_weight_65 : decode cX6_weight 65 = .ok (.iaload, 1) := by decide +kernel
theorem dX6_weight_66 : decode cX6_weight 66 = .ok (.aload_n 0, 1) := by decide +kernel
theorem dX6_weight_67 : decode cX6_weight 67 = .ok (.getfield 25, 3) := by decide +kernel
theorem dX6_weight_70 : decode cX6_weight 70 = .ok (.iload_n 1, 1) := by decide +kernel
theorem dX6_weight_71 : decode cX6_weight 71 = .ok (.iaload, 1) := by decide +kernel
theorem dX6_weight_72 : decode cX6_weight 72 = .ok (.isub, 1) := by decide +kernel
theorem dX6_weight_73 : decode cX6_weight 73 = .ok (.istore 4, 2) := by decide +kernel
theorem dX6_weight_75 : decode cX6_weight 75 = .ok (.iload_n 2, 1) := by decide +kernel
theorem dX6_weight_76 : decode cX6_weight 76 = .ok (.iconst 3, 1) := by decide +kernel
theorem dX6_weight_77 : decode cX6_weight 77 = .ok (.if_icmp .ne 12, 3) := by decide +kernel
theorem dX6_weight_80 : decode cX6_weight 80 = .ok (.iload 4, 2) := by decide +kernel
theorem dX6_weight_82 : decode cX6_weight 82 = .ok (.sipush 5000, 3) := by decide +kernel
theorem dX6_weight_85 : decode cX6_weight 85 = .ok (.iadd, 1) := by decide +kernel
theorem dX6_weight_86 : decode cX6_weight 86 = .ok (.goto 38, 3) := by decide +kernel
theorem dX6_weight_89 : decode cX6_weight 89 = .ok (.iload 4, 2) := by decide +kernel
theorem dX6_weight_91 : decode cX6_weight 91 = .ok (.iload_n 3, 1) := by decide +kernel
theorem dX6_weight_92 : decode cX6_weight 92 = .ok (.ifCond .eq 12, 3) := by decide +kernel
theorem dX6_weight_95 : decode cX6_weight 95 = .ok (.aload_n 0, 1) := by decide +kernel
theorem dX6_weight_96 : decode cX6_weight 96 = .ok (.getfield 28, 3) := by decide +kernel
theorem dX6_weight_99 : decode cX6_weight 99 = .ok (.iload_n 1, 1) := by decide +kernel
theorem dX6_weight_100 : decode cX6_weight 100 = .ok (.iaload, 1) := by decide +kernel
theorem dX6_weight_101 : decode cX6_weight 101 = .ok (.goto 4, 3) := by decide +kernel
theorem dX6_weight_104 : decode cX6_weight 104 = .ok (.iconst 0, 1) := by decide +kernel
theorem dX6_weight_105 : decode cX6_weight 105 = .ok (.iadd, 1) := by decide +kernel
theorem dX6_weight_106 : decode cX6_weight 106 = .ok (.iload_n 2, 1) := by decide +kernel
theorem dX6_weight_107 : decode cX6_weight 107 = .ok (.iconst 2, 1) := by decide +kernel
theorem dX6_weight_108 : decode cX6_weight 108 = .ok (.if_icmp .ne 14, 3) := by decide +kernel
theorem dX6_weight_111 : decode cX6_weight 111 = .ok (.aload_n 0, 1) := by decide +kernel
theorem dX6_weight_112 : decode cX6_weight 112 = .ok (.getfield 19, 3) := by decide +kernel
theorem dX6_weight_115 : decode cX6_weight 115 = .ok (.iconst 4, 1) := by decide +kernel
theorem dX6_weight_116 : decode cX6_weight 116 = .ok (.iload_n 1, 1) := by decide +kernel
theorem dX6_weight_117 : decode cX6_weight 117 = .ok (.imul, 1) := by decide +kernel
theorem dX6_weight_118 : decode cX6_weight 118 = .ok (.iaload, 1) := by decide +kernel
theorem dX6_weight_119 : decode cX6_weight 119 = .ok (.goto 4, 3) := by decide +kernel
theorem dX6_weight_122 : decode cX6_weight 122 = .ok (.iconst 0, 1) := by decide +kernel
theorem dX6_weight_123 : decode cX6_weight 123 = .ok (.iadd, 1) := by decide +kernel
theorem dX6_weight_124 : decode cX6_weight 124 = .ok (.ireturn, 1) := by decide +kernel
theorem dX6_marked_0 : decode cX6_marked 0 = .ok (.aload_n 0, 1) := by decide +kernel
theorem dX6_marked_1 : decode cX6_marked 1 = .ok (.iload_n 1, 1) := by decide +kernel
theorem dX6_marked_2 : decode cX6_marked 2 = .ok (.invokevirtual 275, 3) := by decide +kernel
theorem dX6_marked_5 : decode cX6_marked 5 = .ok (.istore_n 2, 1) := by decide +kernel
theorem dX6_marked_6 : decode cX6_marked 6 = .ok (.iload_n 2, 1) := by decide +kernel
theorem dX6_marked_7 : decode cX6_marked 7 = .ok (.iconst 1, 1) := by decide +kernel
theorem dX6_marked_8 : decode cX6_marked 8 = .ok (.if_icmp .eq 8, 3) := by decide +kernel
theorem dX6_marked_11 : decode cX6_marked 11 = .ok (.iload_n 2, 1) := by decide +kernel
theorem dX6_marked_12 : decode cX6_marked 12 = .ok (.iconst 2, 1) := by decide +kernel
theorem dX6_marked_13 : decode cX6_marked 13 = .ok (.if_icmp .ne 7, 3) := by decide +kernel
theorem dX6_marked_16 : decode cX6_marked 16 = .ok (.iconst 1, 1) := by decide +kernel
theorem dX6_marked_17 : decode cX6_marked 17 = .ok (.goto 4, 3) := by decide +kernel
theorem dX6_marked_20 : decode cX6_marked 20 = .ok (.iconst 0, 1) := by decide +kernel
theorem dX6_marked_21 : decode cX6_marked 21 = .ok (.istore_n 3, 1) := by decide +kernel
theorem dX6_marked_22 : decode cX6_marked 22 = .ok (.iload_n 2, 1) := by decide +kernel
theorem dX6_marked_23 : decode cX6_marked 23 = .ok (.iconst 3, 1) := by decide +kernel
theorem dX6_marked_24 : decode cX6_marked 24 = .ok (.if_icmp .ne 9, 3) := by decide +kernel
theorem dX6_marked_27 : decode cX6_marked 27 = .ok (.aload_n 0, 1) := by decide +kernel
theorem dX6_marked_28 : decode cX6_marked 28 = .ok (.bipush 22, 2) := by decide +kernel
theorem dX6_marked_30 : decode cX6_marked 30 = .ok (.invokevirtual 284, 3) := by decide +kernel
theorem dX6_marked_33 : decode cX6_marked 33 = .ok (.iload_n 3, 1) := by decide +kernel
theorem dX6_marked_34 : decode cX6_marked 34 = .ok (.ifCond .eq 9, 3) := by decide +kernel
theorem dX6_marked_37 : decode cX6_marked 37 = .ok (.aload_n 0, 1) := by decide +kernel
theorem dX6_marked_38 : decode cX6_marked 38 = .ok (.bipush 21, 2) := by decide +kernel
theorem dX6_marked_40 : decode cX6_marked 40 = .ok (.invokevirtual 284, 3) := by decide +kernel
theorem dX6_marked_43 : decode cX6_marked 43 = .ok (.aload_n 0, 1) := by decide +kernel
theorem dX6_marked_44 : decode cX6_marked 44 = .ok (.bipush 20, 2) := by decide +kernel
theorem dX6_marked_46 : decode cX6_marked 46 = .ok (.invokevirtual 284, 3) := by decide +kernel
theorem dX6_marked_49 : decode cX6_marked 49 = .ok (.aload_n 0, 1) := by decide +kernel
theorem dX6_marked_50 : decode cX6_marked 50 = .ok (.getfield 16, 3) := by decide +kernel
theorem dX6_marked_53 : decode cX6_marked 53 = .ok (.iload_n 1, 1) := by decide +kernel
theorem dX6_marked_54 : decode cX6_marked 54 = .ok (.iaload, 1) := by decide +kernel
theorem dX6_marked_55 : decode cX6_marked 55 = .ok (.iload_n 3, 1) := by decide +kernel
theorem dX6_marked_56 : decode cX6_marked 56 = .ok (.ifCond .eq 11, 3) := by decide +kernel
theorem dX6_marked_59 : decode cX6_marked 59 = .ok (.aload_n 0, 1) := by decide +kernel
theorem dX6_marked_60 : decode cX6_marked 60 = .ok (.iload_n 1, 1) := by decide +kernel
theorem dX6_marked_61 : decode cX6_marked 61 = .ok (.invokevirtual 287, 3) := by decide +kernel
theorem dX6_marked_64 : decode cX6_marked 64 = .ok (.goto 18, 3) := by decide +kernel
theorem dX6_marked_67 : decode cX6_marked 67 = .ok (.iload_n 2, 1) := by decide +kernel
theorem dX6_marked_68 : decode cX6_marked 68 = .ok (.iconst 3, 1) := by decide +kernel
theorem dX6_marked_69 : decode cX6_marked 69 = .ok (.if_icmp .ne 12, 3) := by decide +kernel
theorem dX6_marked_72 : decode cX6_marked 72 = .ok (.aload_n 0, 1) := by decide +kernel
theorem dX6_marked_73 : decode cX6_marked 73 = .ok (.iload_n 1, 1) := by decide +kernel
theorem dX6_marked_74 : decode cX6_marked 74 = .ok (.invokevirtual 287, 3) := by decide +kernel
theorem dX6_marked_77 : decode cX6_marked 77 = .ok (.ineg, 1) := by decide +kernel
theorem dX6_marked_78 : decode cX6_marked 78 = .ok (.goto 4, 3) := by decide +kernel
theorem dX6_marked_81 : decode cX6_marked 81 = .ok (.iconst 0, 1) := by decide +kernel
theorem dX6_marked_82 : decode cX6_marked 82 = .ok (.iadd, 1) := by decide +kernel
theorem dX6_marked_83 : decode cX6_marked 83 = .ok (.ireturn, 1) := by decide +kernel
theorem dX6_ask_0 : decode cX6_ask 0 = .ok (.aload_n 0, 1) := by decide +kernel
theorem dX6_ask_1 : decode cX6_ask 1 = .ok (.iconst 0, 1) := by decide +kernel
theorem dX6_ask_2 : decode cX6_ask 2 = .ok (.putfield 90, 3) := by decide +kernel
theorem dX6_ask_5 : decode cX6_ask 5 = .ok (.aload_n 0, 1) := by decide +kernel
theorem dX6_ask_6 : decode cX6_ask 6 = .ok (.iload_n 1, 1) := by decide +kernel
theorem dX6_ask_7 : decode cX6_ask 7 = .ok (.invokevirtual 108, 3) := by decide +kernel
theorem dX6_ask_10 : decode cX6_ask 10 = .ok (.ifCond .eq 13, 3) := by decide +kernel
theorem dX6_ask_13 : decode cX6_ask 13 = .ok (.iload_n 2, 1) := by decide +kernel
theorem dX6_ask_14 : decode cX6_ask 14 = .ok (.i2l, 1) := by decide +kernel
theorem dX6_ask_15 : decode cX6_ask 15 = .ok (.lconst 0, 1) := by decide +kernel
theorem dX6_ask_16 : decode cX6_ask 16 = .ok (.lconst 1, 1) := by decide +kernel
theorem dX6_ask_17 : decode cX6_ask 17 = .ok (.invokestatic 96, 3) := by decide +kernel
theorem dX6_ask_20 : decode cX6_ask 20 = .ok (.ifCond .ne 6, 3) := by decide +kernel
theorem dX6_ask_23 : decode cX6_ask 23 = .ok (.ldc 106, 2) := by decide +kernel
theorem dX6_ask_25 : decode cX6_ask 25 = .ok (.ireturn, 1) := by decide +kernel
theorem dX6_ask_26 : decode cX6_ask 26 = .ok (.aload_n 0, 1) := by decide +kernel
theorem dX6_ask_27 : decode cX6_ask 27 = .ok (.iconst 0, 1) := by decide +kernel
theorem dX6_ask_28 : decode cX6_ask 28 = .ok (.putfield 281, 3) := by decide +kernel
theorem dX6_ask_31 : decode cX6_ask 31 = .ok (.iload_n 2, 1) := by decide +kernel
theorem dX6_ask_32 : decode cX6_ask 32 = .ok (.ifCond .ne 11, 3) := by decide +kernel
theorem dX6_ask_35 : decode cX6_ask 35 = .ok (.aload_n 0, 1) := by decide +kernel
theorem dX6_ask_36 : decode cX6_ask 36 = .ok (.iload_n 1, 1) := by decide +kernel
theorem dX6_ask_37 : decode cX6_ask 37 = .ok (.invokevirtual 287, 3) := by decide +kernel
theorem dX6_ask_40 : decode cX6_ask 40 = .ok (.goto 8, 3) := by decide +kernel
theorem dX6_ask_43 : decode cX6_ask 43 = .ok (.aload_n 0, 1) := by decide +kernel
theorem dX6_ask_44 : decode cX6_ask 44 = .ok (.iload_n 1, 1) := by decide +kernel
theorem dX6_ask_45 : decode cX6_ask 45 = .ok (.invokevirtual 290, 3) := by decide +kernel
theorem dX6_ask_48 : decode cX6_ask 48 = .ok (.ireturn, 1) := by decide +kernel
theorem dX6_trace_0 : decode cX6_trace 0 = .ok (.aload_n 0, 1) := by decide +kernel
theorem dX6_trace_1 : decode cX6_trace 1 = .ok (.iconst 0, 1) := by decide +kernel
theorem dX6_trace_2 : decode cX6_trace 2 = .ok (.putfield 90, 3) := by decide +kernel
theorem dX6_trace_5 : decode cX6_trace 5 = .ok (.iload_n 1, 1) := by decide +kernel
theorem dX6_trace_6 : decode cX6_trace 6 = .ok (.i2l, 1) := by decide +kernel
theorem dX6_trace_7 : decode cX6_trace 7 = .ok (.lconst 0, 1) := by decide +kernel
theorem dX6_trace_8 : decode cX6_trace 8 = .ok (.aload_n 0, 1) := by decide +kernel
theorem dX6_trace_9 : decode cX6_trace 9 = .ok (.getfield 281, 3) := by decide +kernel
theorem dX6_trace_12 : decode cX6_trace 12 = .ok (.iconst 1, 1) := by decide +kernel
theorem dX6_trace_13 : decode cX6_trace 13 = .ok (.isub, 1) := by decide +kernel
theorem dX6_trace_14 : decode cX6_trace 14 = .ok (.i2l, 1) := by decide +kernel
theorem dX6_trace_15 : decode cX6_trace 15 = .ok (.invokestatic 96, 3) := by decide +kernel
theorem dX6_trace_18 : decode cX6_trace 18 = .ok (.ifCond .eq 12, 3) := by decide +kernel
theorem dX6_trace_21 : decode cX6_trace 21 = .ok (.aload_n 0, 1) := by decide +kernel
theorem dX6_trace_22 : decode cX6_trace 22 = .ok (.getfield 87, 3) := by decide +kernel
theorem dX6_trace_25 : decode cX6_trace 25 = .ok (.iload_n 1, 1) := by decide +kernel
theorem dX6_trace_26 : decode cX6_trace 26 = .ok (.iaload, 1) := by decide +kernel
theorem dX6_trace_27 : decode cX6_trace 27 = .ok (.goto 5, 3) := by decide +kernel
theorem dX6_trace_30 : decode cX6_trace 30 = .ok (.ldc 145, 2) := by decide +kernel
theorem dX6_trace_32 : decode cX6_trace 32 = .ok (.ireturn, 1) := by decide +kernel
theorem dX6_count_0 : decode cX6_count 0 = .ok (.aload_n 0, 1) := by decide +kernel
theorem dX6_count_1 : decode cX6_count 1 = .ok (.iconst 0, 1) := by decide +kernel
theorem dX6_count_2 : decode cX6_count 2 = .ok (.putfield 90, 3) := by decide +kernel
theorem dX6_count_5 : decode cX6_count 5 = .ok (.iload_n 1, 1) := by decide +kernel
theorem dX6_count_6 : decode cX6_count 6 = .ok (.tableswitch 91 0 7 #[46, 52, 58, 64, 70, 75, 80, 85], 46) := by decide +kernel
theorem dX6_count_52 : decode cX6_count 52 = .ok (.aload_n 0, 1) := by decide +kernel
theorem dX6_count_53 : decode cX6_count 53 = .ok (.getfield 93, 3) := by decide +kernel
theorem dX6_count_56 : decode cX6_count 56 = .ok (.i2l, 1) := by decide +kernel
theorem dX6_count_57 : decode cX6_count 57 = .ok (.lreturn, 1) := by decide +kernel
theorem dX6_count_58 : decode cX6_count 58 = .ok (.aload_n 0, 1) := by decide +kernel
theorem dX6_count_59 : decode cX6_count 59 = .ok (.getfield 115, 3) := by decide +kernel
theorem dX6_count_62 : decode cX6_count 62 = .ok (.i2l, 1) := by decide +kernel
theorem dX6_count_63 : decode cX6_count 63 = .ok (.lreturn, 1) := by decide +kernel
theorem dX6_count_64 : decode cX6_count 64 = .ok (.aload_n 0, 1) := by decide +kernel
theorem dX6_count_65 : decode cX6_count 65 = .ok (.invokevirtual 130, 3) := by decide +kernel
theorem dX6_count_68 : decode cX6_count 68 = .ok (.i2l, 1) := by decide +kernel
theorem dX6_count_69 : decode cX6_count 69 = .ok (.lreturn, 1) := by decide +kernel
theorem dX6_count_70 : decode cX6_count 70 = .ok (.aload_n 0, 1) := by decide +kernel
theorem dX6_count_71 : decode cX6_count 71 = .ok (.getfield 134, 3) := by decide +kernel
theorem dX6_count_74 : decode cX6_count 74 = .ok (.i2l, 1) := by decide +kernel
theorem dX6_count_75 : decode cX6_count 75 = .ok (.lreturn, 1) := by decide +kernel
theorem dX6_count_76 : decode cX6_count 76 = .ok (.aload_n 0, 1) := by decide +kernel
theorem dX6_count_77 : decode cX6_count 77 = .ok (.getfield 139, 3) := by decide +kernel
theorem dX6_count_80 : decode cX6_count 80 = .ok (.lreturn, 1) := by decide +kernel
theorem dX6_count_81 : decode cX6_count 81 = .ok (.aload_n 0, 1) := by decide +kernel
theorem dX6_count_82 : decode cX6_count 82 = .ok (.getfield 187, 3) := by decide +kernel
theorem dX6_count_85 : decode cX6_count 85 = .ok (.lreturn, 1) := by decide +kernel
theorem dX6_count_86 : decode cX6_count 86 = .ok (.aload_n 0, 1) := by decide +kernel
theorem dX6_count_87 : decode cX6_count 87 = .ok (.getfield 190, 3) := by decide +kernel
theorem dX6_count_90 : decode cX6_count 90 = .ok (.lreturn, 1) := by decide +kernel
theorem dX6_count_91 : decode cX6_count 91 = .ok (.aload_n 0, 1) := by decide +kernel
theorem dX6_count_92 : decode cX6_count 92 = .ok (.getfield 201, 3) := by decide +kernel
theorem dX6_count_95 : decode cX6_count 95 = .ok (.i2l, 1) := by decide +kernel
theorem dX6_count_96 : decode cX6_count 96 = .ok (.lreturn, 1) := by decide +kernel
theorem dX6_count_97 : decode cX6_count 97 = .ok (.ldc2_w 293, 3) := by decide +kernel
theorem dX6_count_100 : decode cX6_count 100 = .ok (.lreturn, 1) := by decide +kernel
end
section
theorem dL_law_0 : decode cL_law 0 = .ok (.new 7, 3) := by decide +kernel
theorem dL_law_3 : decode cL_law 3 = .ok (.dup, 1) := by decide +kernel
theorem dL_law_4 : decode cL_law 4 = .ok (.invokespecial 9, 3) := by decide +kernel
theorem dL_law_7 : decode cL_law 7 = .ok (.astore_n 1, 1) := by decide +kernel
theorem dL_law_8 : decode cL_law 8 = .ok (.new 10, 3) := by decide +kernel
theorem dL_law_11 : decode cL_law 11 = .ok (.dup, 1) := by decide +kernel
theorem dL_law_12 : decode cL_law 12 = .ok (.invokespecial 12, 3) := by decide +kernel
theorem dL_law_15 : decode cL_law 15 = .ok (.astore_n 2, 1) := by decide +kernel
theorem dL_law_16 : decode cL_law 16 = .ok (.iconst 0, 1) := by decide +kernel
theorem dL_law_17 : decode cL_law 17 = .ok (.istore_n 3, 1) := by decide +kernel
theorem dL_law_18 : decode cL_law 18 = .ok (.iload_n 3, 1) := by decide +kernel
theorem dL_law_19 : decode cL_law 19 = .ok (.aload_n 0, 1) := by decide +kernel
theorem dL_law_20 : decode cL_law 20 = .ok (.arraylength, 1) := by decide +kernel
theorem dL_law_21 : decode cL_law 21 = .ok (.bipush 6, 2) := by decide +kernel
theorem dL_law_23 : decode cL_law 23 = .ok (.isub, 1) := by decide +kernel
theorem dL_law_24 : decode cL_law 24 = .ok (.if_icmp .gt 785, 3) := by decide +kernel
theorem dL_law_27 : decode cL_law 27 = .ok (.aload_n 0, 1) := by decide +kernel
theorem dL_law_28 : decode cL_law 28 = .ok (.iload_n 3, 1) := by decide +kernel
theorem dL_law_29 : decode cL_law 29 = .ok (.iaload, 1) := by decide +kernel
theorem dL_law_30 : decode cL_law 30 = .ok (.bipush 31, 2) := by decide +kernel
theorem dL_law_32 : decode cL_law 32 = .ok (.iand, 1) := by decide +kernel
theorem dL_law_33 : decode cL_law 33 = .ok (.tableswitch 770 0 21 #[103, 146, 209, 232, 265, 298, 331, 354, 377, 390, 423, 456, 489, 512, 575, 588, 601, 634, 657, 690, 723, 746], 103) := by decide +kernel
theorem dL_law_136 : decode cL_law 136 = .ok (.aload_n 1, 1) := by decide +kernel
theorem dL_law_137 : decode cL_law 137 = .ok (.aload_n 0, 1) := by decide +kernel
theorem dL_law_138 : decode cL_law 138 = .ok (.iload_n 3, 1) := by decide +kernel
theorem dL_law_139 : decode cL_law 139 = .ok (.iconst 1, 1) := by decide +kernel
theorem dL_law_140 : decode cL_law 140 = .ok (.iadd, 1) := by decide +kernel
theorem dL_law_141 : decode cL_law 141 = .ok (.iaload, 1) := by decide +kernel
theorem dL_law_142 : decode cL_law 142 = .ok (.aload_n 0, 1) := by decide +kernel
theorem dL_law_143 : decode cL_law 143 = .ok (.iload_n 3, 1) := by decide +kernel
theorem dL_law_144 : decode cL_law 144 = .ok (.iconst 2, 1) := by decide +kernel
theorem dL_law_145 : decode cL_law 145 = .ok (.iadd, 1) := by decide +kernel
theorem dL_law_146 : decode cL_law 146 = .ok (.iaload, 1) := by decide +kernel
theorem dL_law_147 : decode cL_law 147 = .ok (.aload_n 0, 1) := by decide +kernel
theorem dL_law_148 : decode cL_law 148 = .ok (.iload_n 3, 1) := by decide +kernel
theorem dL_law_149 : decode cL_law 149 = .ok (.iconst 3, 1) := by decide +kernel
theorem dL_law_150 : decode cL_law 150 = .ok (.iadd, 1) := by decide +kernel
theorem dL_law_151 : decode cL_law 151 = .ok (.iaload, 1) := by decide +kernel
theorem dL_law_152 : decode cL_law 152 = .ok (.invokevirtual 13, 3) := by decide +kernel
theorem dL_law_155 : decode cL_law 155 = .ok (.aload_n 2, 1) := by decide +kernel
theorem dL_law_156 : decode cL_law 156 = .ok (.aload_n 0, 1) := by decide +kernel
theorem dL_law_157 : decode cL_law 157 = .ok (.iload_n 3, 1) := by decide +kernel
theorem dL_law_158 : decode cL_law 158 = .ok (.iconst 1, 1) := by decide +kernel
theorem dL_law_159 : decode cL_law 159 = .ok (.iadd, 1) := by decide +kernel
theorem dL_law_160 : decode cL_law 160 = .ok (.iaload, 1) := by decide +kernel
theorem dL_law_161 : decode cL_law 161 = .ok (.aload_n 0, 1) := by decide +kernel
theorem dL_law_162 : decode cL_law 162 = .ok (.iload_n 3, 1) := by decide +kernel
theorem dL_law_163 : decode cL_law 163 = .ok (.iconst 2, 1) := by decide +kernel
theorem dL_law_164 : decode cL_law 164 = .ok (.iadd, 1) := by decide +kernel
theorem dL_law_165 : decode cL_law 165 = .ok (.iaload, 1) := by decide +kernel
theorem dL_law_166 : decode cL_law 166 = .ok (.aload_n 0, 1) := by decide +kernel
theorem dL_law_167 : decode cL_law 167 = .ok (.iload_n 3, 1) := by decide +kernel
theorem dL_law_168 : decode cL_law 168 = .ok (.iconst 3, 1) := by decide +kernel
theorem dL_law_169 : decode cL_law 169 = .ok (.iadd, 1) := by decide +kernel
theorem dL_law_170 : decode cL_law 170 = .ok (.iaload, 1) := by decide +kernel
theorem dL_law_171 : decode cL_law 171 = .ok (.invokevirtual 17, 3) := by decide +kernel
theorem dL_law_174 : decode cL_law 174 = .ok (.if_icmp .eq 629, 3) := by decide +kernel
theorem dL_law_177 : decode cL_law 177 = .ok (.iconst 0, 1) := by decide +kernel
theorem dL_law_178 : decode cL_law 178 = .ok (.ireturn, 1) := by decide +kernel
theorem dL_law_179 : decode cL_law 179 = .ok (.aload_n 1, 1) := by decide +kernel
theorem dL_law_180 : decode cL_law 180 = .ok (.aload_n 0, 1) := by decide +kernel
theorem dL_law_181 : decode cL_law 181 = .ok (.iload_n 3, 1) := by decide +kernel
theorem dL_law_182 : decode cL_law 182 = .ok (.iconst 1, 1) := by decide +kernel
theorem dL_law_183 : decode cL_law 183 = .ok (.iadd, 1) := by decide +kernel
theorem dL_law_184 : decode cL_law 184 = .ok (.iaload, 1) := by decide +kernel
theorem dL_law_185 : decode cL_law 185 = .ok (.aload_n 0, 1) := by decide +kernel
theorem dL_law_186 : decode cL_law 186 = .ok (.iload_n 3, 1) := by decide +kernel
theorem dL_law_187 : decode cL_law 187 = .ok (.iconst 2, 1) := by decide +kernel
theorem dL_law_188 : decode cL_law 188 = .ok (.iadd, 1) := by decide +kernel
theorem dL_law_189 : decode cL_law 189 = .ok (.iaload, 1) := by decide +kernel
theorem dL_law_190 : decode cL_law 190 = .ok (.aload_n 0, 1) := by decide +kernel
theorem dL_law_191 : decode cL_law 191 = .ok (.iload_n 3, 1) := by decide +kernel
theorem dL_law_192 : decode cL_law 192 = .ok (.iconst 3, 1) := by decide +kernel
theorem dL_law_193 : decode cL_law 193 = .ok (.iadd, 1) := by decide +kernel
theorem dL_law_194 : decode cL_law 194 = .ok (.iaload, 1) := by decide +kernel
theorem dL_law_195 : decode cL_law 195 = .ok (.aload_n 0, 1) := by decide +kernel
theorem dL_law_196 : decode cL_law 196 = .ok (.iload_n 3, 1) := by decide +kernel
theorem dL_law_197 : decode cL_law 197 = .ok (.iconst 4, 1) := by decide +kernel
theorem dL_law_198 : decode cL_law 198 = .ok (.iadd, 1) := by decide +kernel
theorem dL_law_199 : decode cL_law 199 = .ok (.iaload, 1) := by decide +kernel
theorem dL_law_200 : decode cL_law 200 = .ok (.aload_n 0, 1) := by decide +kernel
theorem dL_law_201 : decode cL_law 201 = .ok (.iload_n 3, 1) := by decide +kernel
theorem dL_law_202 : decode cL_law 202 = .ok (.iconst 5, 1) := by decide +kernel
theorem dL_law_203 : decode cL_law 203 = .ok (.iadd, 1) := by decide +kernel
theorem dL_law_204 : decode cL_law 204 = .ok (.iaload, 1) := by decide +kernel
theorem dL_law_205 : decode cL_law 205 = .ok (.invokevirtual 18, 3) := by decide +kernel
theorem dL_law_208 : decode cL_law 208 = .ok (.aload_n 2, 1) := by decide +kernel
theorem dL_law_209 : decode cL_law 209 = .ok (.aload_n 0, 1) := by decide +kernel
theorem dL_law_210 : decode cL_law 210 = .ok (.iload_n 3, 1) := by decide +kernel
theorem dL_law_211 : decode cL_law 211 = .ok (.iconst 1, 1) := by decide +kernel
theorem dL_law_212 : decode cL_law 212 = .ok (.iadd, 1) := by decide +kernel
theorem dL_law_213 : decode cL_law 213 = .ok (.iaload, 1) := by decide +kernel
theorem dL_law_214 : decode cL_law 214 = .ok (.aload_n 0, 1) := by decide +kernel
theorem dL_law_215 : decode cL_law 215 = .ok (.iload_n 3, 1) := by decide +kernel
theorem dL_law_216 : decode cL_law 216 = .ok (.iconst 2, 1) := by decide +kernel
theorem dL_law_217 : decode cL_law 217 = .ok (.iadd, 1) := by decide +kernel
theorem dL_law_218 : decode cL_law 218 = .ok (.iaload, 1) := by decide +kernel
theorem dL_law_219 : decode cL_law 219 = .ok (.aload_n 0, 1) := by decide +kernel
theorem dL_law_220 : decode cL_law 220 = .ok (.iload_n 3, 1) := by decide +kernel
theorem dL_law_221 : decode cL_law 221 = .ok (.iconst 3, 1) := by decide +kernel
theorem dL_law_222 : decode cL_law 222 = .ok (.iadd, 1) := by decide +kernel
theorem dL_law_223 : decode cL_law 223 = .ok (.iaload, 1) := by decide +kernel
theorem dL_law_224 : decode cL_law 224 = .ok (.aload_n 0, 1) := by decide +kernel
theorem dL_law_225 : decode cL_law 225 = .ok (.iload_n 3, 1) := by decide +kernel
theorem dL_law_226 : decode cL_law 226 = .ok (.iconst 4, 1) := by decide +kernel
theorem dL_law_227 : decode cL_law 227 = .ok (.iadd, 1) := by decide +kernel
theorem dL_law_228 : decode cL_law 228 = .ok (.iaload, 1) := by decide +kernel
theorem dL_law_229 : decode cL_law 229 = .ok (.aload_n 0, 1) := by decide +kernel
theorem dL_law_230 : decode cL_law 230 = .ok (.iload_n 3, 1) := by decide +kernel
theorem dL_law_231 : decode cL_law 231 = .ok (.iconst 5, 1) := by decide +kernel
theorem dL_law_232 : decode cL_law 232 = .ok (.iadd, 1) := by decide +kernel
theorem dL_law_233 : decode cL_law 233 = .ok (.iaload, 1) := by decide +kernel
theorem dL_law_234 : decode cL_law 234 = .ok (.invokevirtual 22, 3) := by decide +kernel
theorem dL_law_237 : decode cL_law 237 = .ok (.if_icmp .eq 566, 3) := by decide +kernel
theorem dL_law_240 : decode cL_law 240 = .ok (.iconst 0, 1) := by decide +kernel
theorem dL_law_241 : decode cL_law 241 = .ok (.ireturn, 1) := by decide +kernel
theorem dL_law_242 : decode cL_law 242 = .ok (.aload_n 1, 1) := by decide +kernel
theorem dL_law_243 : decode cL_law 243 = .ok (.aload_n 0, 1) := by decide +kernel
theorem dL_law_244 : decode cL_law 244 = .ok (.iload_n 3, 1) := by decide +kernel
theorem dL_law_245 : decode cL_law 245 = .ok (.iconst 1, 1) := by decide +kernel
theorem dL_law_246 : decode cL_law 246 = .ok (.iadd, 1) := by decide +kernel
theorem dL_law_247 : decode cL_law 247 = .ok (.iaload, 1) := by decide +kernel
theorem dL_law_248 : decode cL_law 248 = .ok (.invokevirtual 23, 3) := by decide +kernel
theorem dL_law_251 : decode cL_law 251 = .ok (.aload_n 2, 1) := by decide +kernel
theorem dL_law_252 : decode cL_law 252 = .ok (.aload_n 0, 1) := by decide +kernel
theorem dL_law_253 : decode cL_law 253 = .ok (.iload_n 3, 1) := by decide +kernel
theorem dL_law_254 : decode cL_law 254 = .ok (.iconst 1, 1) := by decide +kernel
theorem dL_law_255 : decode cL_law 255 = .ok (.iadd, 1) := by decide +kernel
theorem dL_law_256 : decode cL_law 256 = .ok (.iaload, 1) := by decide +kernel
theorem dL_law_257 : decode cL_law 257 = .ok (.invokevirtual 27, 3) := by decide +kernel
theorem dL_law_260 : decode cL_law 260 = .ok (.if_icmp .eq 543, 3) := by decide +kernel
theorem dL_law_263 : decode cL_law 263 = .ok (.iconst 0, 1) := by decide +kernel
theorem dL_law_264 : decode cL_law 264 = .ok (.ireturn, 1) := by decide +kernel
theorem dL_law_265 : decode cL_law 265 = .ok (.aload_n 1, 1) := by decide +kernel
theorem dL_law_266 : decode cL_law 266 = .ok (.aload_n 0, 1) := by decide +kernel
theorem dL_law_267 : decode cL_law 267 = .ok (.iload_n 3, 1) := by decide +kernel
theorem dL_law_268 : decode cL_law 268 = .ok (.iconst 1, 1) := by decide +kernel
theorem dL_law_269 : decode cL_law 269 = .ok (.iadd, 1) := by decide +kernel
theorem dL_law_270 : decode cL_law 270 = .ok (.iaload, 1) := by decide +kernel
theorem dL_law_271 : decode cL_law 271 = .ok (.aload_n 0, 1) := by decide +kernel
theorem dL_law_272 : decode cL_law 272 = .ok (.iload_n 3, 1) := by decide +kernel
theorem dL_law_273 : decode cL_law 273 = .ok (.iconst 2, 1) := by decide +kernel
theorem dL_law_274 : decode cL_law 274 = .ok (.iadd, 1) := by decide +kernel
theorem dL_law_275 : decode cL_law 275 = .ok (.iaload, 1) := by decide +kernel
theorem dL_law_276 : decode cL_law 276 = .ok (.invokevirtual 28, 3) := by decide +kernel
theorem dL_law_279 : decode cL_law 279 = .ok (.aload_n 2, 1) := by decide +kernel
theorem dL_law_280 : decode cL_law 280 = .ok (.aload_n 0, 1) := by decide +kernel
theorem dL_law_281 : decode cL_law 281 = .ok (.iload_n 3, 1) := by decide +kernel
theorem dL_law_282 : decode cL_law 282 = .ok (.iconst 1, 1) := by decide +kernel
theorem dL_law_283 : decode cL_law 283 = .ok (.iadd, 1) := by decide +kernel
theorem dL_law_284 : decode cL_law 284 = .ok (.iaload, 1) := by decide +kernel
theorem dL_law_285 : decode cL_law 285 = .ok (.aload_n 0, 1) := by decide +kernel
theorem dL_law_286 : decode cL_law 286 = .ok (.iload_n 3, 1) := by decide +kernel
theorem dL_law_287 : decode cL_law 287 = .ok (.iconst 2, 1) := by decide +kernel
theorem dL_law_288 : decode cL_law 288 = .ok (.iadd, 1) := by decide +kernel
theorem dL_law_289 : decode cL_law 289 = .ok (.iaload, 1) := by decide +kernel
theorem dL_law_290 : decode cL_law 290 = .ok (.invokevirtual 32, 3) := by decide +kernel
theorem dL_law_293 : decode cL_law 293 = .ok (.if_icmp .eq 510, 3) := by decide +kernel
theorem dL_law_296 : decode cL_law 296 = .ok (.iconst 0, 1) := by decide +kernel
theorem dL_law_297 : decode cL_law 297 = .ok (.ireturn, 1) := by decide +kernel
theorem dL_law_298 : decode cL_law 298 = .ok (.aload_n 1, 1) := by decide +kernel
theorem dL_law_299 : decode cL_law 299 = .ok (.aload_n 0, 1) := by decide +kernel
theorem dL_law_300 : decode cL_law 300 = .ok (.iload_n 3, 1) := by decide +kernel
theorem dL_law_301 : decode cL_law 301 = .ok (.iconst 1, 1) := by decide +kernel
theorem dL_law_302 : decode cL_law 302 = .ok (.iadd, 1) := by decide +kernel
theorem dL_law_303 : decode cL_law 303 = .ok (.iaload, 1) := by decide +kernel
theorem dL_law_304 : decode cL_law 304 = .ok (.aload_n 0, 1) := by decide +kernel
theorem dL_law_305 : decode cL_law 305 = .ok (.iload_n 3, 1) := by decide +kernel
theorem dL_law_306 : decode cL_law 306 = .ok (.iconst 2, 1) := by decide +kernel
theorem dL_law_307 : decode cL_law 307 = .ok (.iadd, 1) := by decide +kernel
theorem dL_law_308 : decode cL_law 308 = .ok (.iaload, 1) := by decide +kernel
theorem dL_law_309 : decode cL_law 309 = .ok (.invokevirtual 33, 3) := by decide +kernel
theorem dL_law_312 : decode cL_law 312 = .ok (.aload_n 2, 1) := by decide +kernel
theorem dL_law_313 : decode cL_law 313 = .ok (.aload_n 0, 1) := by decide +kernel
theorem dL_law_314 : decode cL_law 314 = .ok (.iload_n 3, 1) := by decide +kernel
theorem dL_law_315 : decode cL_law 315 = .ok (.iconst 1, 1) := by decide +kernel
theorem dL_law_316 : decode cL_law 316 = .ok (.iadd, 1) := by decide +kernel
theorem dL_law_317 : decode cL_law 317 = .ok (.iaload, 1) := by decide +kernel
theorem dL_law_318 : decode cL_law 318 = .ok (.aload_n 0, 1) := by decide +kernel
theorem dL_law_319 : decode cL_law 319 = .ok (.iload_n 3, 1) := by decide +kernel
theorem dL_law_320 : decode cL_law 320 = .ok (.iconst 2, 1) := by decide +kernel
theorem dL_law_321 : decode cL_law 321 = .ok (.iadd, 1) := by decide +kernel
theorem dL_law_322 : decode cL_law 322 = .ok (.iaload, 1) := by decide +kernel
theorem dL_law_323 : decode cL_law 323 = .ok (.invokevirtual 36, 3) := by decide +kernel
theorem dL_law_326 : decode cL_law 326 = .ok (.if_icmp .eq 477, 3) := by decide +kernel
theorem dL_law_329 : decode cL_law 329 = .ok (.iconst 0, 1) := by decide +kernel
theorem dL_law_330 : decode cL_law 330 = .ok (.ireturn, 1) := by decide +kernel
theorem dL_law_331 : decode cL_law 331 = .ok (.aload_n 1, 1) := by decide +kernel
theorem dL_law_332 : decode cL_law 332 = .ok (.aload_n 0, 1) := by decide +kernel
theorem dL_law_333 : decode cL_law 333 = .ok (.iload_n 3, 1) := by decide +kernel
theorem dL_law_334 : decode cL_law 334 = .ok (.iconst 1, 1) := by decide +kernel
theorem dL_law_335 : decode cL_law 335 = .ok (.iadd, 1) := by decide +kernel
theorem dL_law_336 : decode cL_law 336 = .ok (.iaload, 1) := by decide +kernel
theorem dL_law_337 : decode cL_law 337 = .ok (.aload_n 0, 1) := by decide +kernel
theorem dL_law_338 : decode cL_law 338 = .ok (.iload_n 3, 1) := by decide +kernel
theorem dL_law_339 : decode cL_law 339 = .ok (.iconst 2, 1) := by decide +kernel
theorem dL_law_340 : decode cL_law 340 = .ok (.iadd, 1) := by decide +kernel
theorem dL_law_341 : decode cL_law 341 = .ok (.iaload, 1) := by decide +kernel
theorem dL_law_342 : decode cL_law 342 = .ok (.invokevirtual 37, 3) := by decide +kernel
theorem dL_law_345 : decode cL_law 345 = .ok (.aload_n 2, 1) := by decide +kernel
theorem dL_law_346 : decode cL_law 346 = .ok (.aload_n 0, 1) := by decide +kernel
theorem dL_law_347 : decode cL_law 347 = .ok (.iload_n 3, 1) := by decide +kernel
theorem dL_law_348 : decode cL_law 348 = .ok (.iconst 1, 1) := by decide +kernel
theorem dL_law_349 : decode cL_law 349 = .ok (.iadd, 1) := by decide +kernel
theorem dL_law_350 : decode cL_law 350 = .ok (.iaload, 1) := by decide +kernel
theorem dL_law_351 : decode cL_law 351 = .ok (.aload_n 0, 1) := by decide +kernel
theorem dL_law_352 : decode cL_law 352 = .ok (.iload_n 3, 1) := by decide +kernel
theorem dL_law_353 : decode cL_law 353 = .ok (.iconst 2, 1) := by decide +kernel
theorem dL_law_354 : decode cL_law 354 = .ok (.iadd, 1) := by decide +kernel
theorem dL_law_355 : decode cL_law 355 = .ok (.iaload, 1) := by decide +kernel
theorem dL_law_356 : decode cL_law 356 = .ok (.invokevirtual 40, 3) := by decide +kernel
theorem dL_law_359 : decode cL_law 359 = .ok (.if_icmp .eq 444, 3) := by decide +kernel
theorem dL_law_362 : decode cL_law 362 = .ok (.iconst 0, 1) := by decide +kernel
theorem dL_law_363 : decode cL_law 363 = .ok (.ireturn, 1) := by decide +kernel
theorem dL_law_364 : decode cL_law 364 = .ok (.aload_n 1, 1) := by decide +kernel
theorem dL_law_365 : decode cL_law 365 = .ok (.aload_n 0, 1) := by decide +kernel
theorem dL_law_366 : decode cL_law 366 = .ok (.iload_n 3, 1) := by decide +kernel
theorem dL_law_367 : decode cL_law 367 = .ok (.iconst 1, 1) := by decide +kernel
theorem dL_law_368 : decode cL_law 368 = .ok (.iadd, 1) := by decide +kernel
theorem dL_law_369 : decode cL_law 369 = .ok (.iaload, 1) := by decide +kernel
theorem dL_law_370 : decode cL_law 370 = .ok (.invokevirtual 41, 3) := by decide +kernel
theorem dL_law_373 : decode cL_law 373 = .ok (.aload_n 2, 1) := by decide +kernel
theorem dL_law_374 : decode cL_law 374 = .ok (.aload_n 0, 1) := by decide +kernel
theorem dL_law_375 : decode cL_law 375 = .ok (.iload_n 3, 1) := by decide +kernel
theorem dL_law_376 : decode cL_law 376 = .ok (.iconst 1, 1) := by decide +kernel
theorem dL_law_377 : decode cL_law 377 = .ok (.iadd, 1) := by decide +kernel
theorem dL_law_378 : decode cL_law 378 = .ok (.iaload, 1) := by decide +kernel
theorem dL_law_379 : decode cL_law 379 = .ok (.invokevirtual 44, 3) := by decide +kernel
theorem dL_law_382 : decode cL_law 382 = .ok (.if_icmp .eq 421, 3) := by decide +kernel
theorem dL_law_385 : decode cL_law 385 = .ok (.iconst 0, 1) := by decide +kernel
theorem dL_law_386 : decode cL_law 386 = .ok (.ireturn, 1) := by decide +kernel
theorem dL_law_387 : decode cL_law 387 = .ok (.aload_n 1, 1) := by decide +kernel
theorem dL_law_388 : decode cL_law 388 = .ok (.aload_n 0, 1) := by decide +kernel
theorem dL_law_389 : decode cL_law 389 = .ok (.iload_n 3, 1) := by decide +kernel
theorem dL_law_390 : decode cL_law 390 = .ok (.iconst 1, 1) := by decide +kernel
theorem dL_law_391 : decode cL_law 391 = .ok (.iadd, 1) := by decide +kernel
theorem dL_law_392 : decode cL_law 392 = .ok (.iaload, 1) := by decide +kernel
theorem dL_law_393 : decode cL_law 393 = .ok (.invokevirtual 45, 3) := by decide +kernel
theorem dL_law_396 : decode cL_law 396 = .ok (.aload_n 2, 1) := by decide +kernel
theorem dL_law_397 : decode cL_law 397 = .ok (.aload_n 0, 1) := by decide +kernel
theorem dL_law_398 : decode cL_law 398 = .ok (.iload_n 3, 1) := by decide +kernel
theorem dL_law_399 : decode cL_law 399 = .ok (.iconst 1, 1) := by decide +kernel
theorem dL_law_400 : decode cL_law 400 = .ok (.iadd, 1) := by decide +kernel
theorem dL_law_401 : decode cL_law 401 = .ok (.iaload, 1) := by decide +kernel
theorem dL_law_402 : decode cL_law 402 = .ok (.invokevirtual 48, 3) := by decide +kernel
theorem dL_law_405 : decode cL_law 405 = .ok (.if_icmp .eq 398, 3) := by decide +kernel
theorem dL_law_408 : decode cL_law 408 = .ok (.iconst 0, 1) := by decide +kernel
theorem dL_law_409 : decode cL_law 409 = .ok (.ireturn, 1) := by decide +kernel
theorem dL_law_410 : decode cL_law 410 = .ok (.aload_n 1, 1) := by decide +kernel
theorem dL_law_411 : decode cL_law 411 = .ok (.invokevirtual 49, 3) := by decide +kernel
theorem dL_law_414 : decode cL_law 414 = .ok (.aload_n 2, 1) := by decide +kernel
theorem dL_law_415 : decode cL_law 415 = .ok (.invokevirtual 53, 3) := by decide +kernel
theorem dL_law_418 : decode cL_law 418 = .ok (.if_icmp .eq 385, 3) := by decide +kernel
theorem dL_law_421 : decode cL_law 421 = .ok (.iconst 0, 1) := by decide +kernel
theorem dL_law_422 : decode cL_law 422 = .ok (.ireturn, 1) := by decide +kernel
theorem dL_law_423 : decode cL_law 423 = .ok (.aload_n 1, 1) := by decide +kernel
theorem dL_law_424 : decode cL_law 424 = .ok (.aload_n 0, 1) := by decide +kernel
theorem dL_law_425 : decode cL_law 425 = .ok (.iload_n 3, 1) := by decide +kernel
theorem dL_law_426 : decode cL_law 426 = .ok (.iconst 1, 1) := by decide +kernel
theorem dL_law_427 : decode cL_law 427 = .ok (.iadd, 1) := by decide +kernel
theorem dL_law_428 : decode cL_law 428 = .ok (.iaload, 1) := by decide +kernel
theorem dL_law_429 : decode cL_law 429 = .ok (.aload_n 0, 1) := by decide +kernel
theorem dL_law_430 : decode cL_law 430 = .ok (.iload_n 3, 1) := by decide +kernel
theorem dL_law_431 : decode cL_law 431 = .ok (.iconst 2, 1) := by decide +kernel
theorem dL_law_432 : decode cL_law 432 = .ok (.iadd, 1) := by decide +kernel
theorem dL_law_433 : decode cL_law 433 = .ok (.iaload, 1) := by decide +kernel
theorem dL_law_434 : decode cL_law 434 = .ok (.invokevirtual 54, 3) := by decide +kernel
theorem dL_law_437 : decode cL_law 437 = .ok (.aload_n 2, 1) := by decide +kernel
theorem dL_law_438 : decode cL_law 438 = .ok (.aload_n 0, 1) := by decide +kernel
theorem dL_law_439 : decode cL_law 439 = .ok (.iload_n 3, 1) := by decide +kernel
theorem dL_law_440 : decode cL_law 440 = .ok (.iconst 1, 1) := by decide +kernel
theorem dL_law_441 : decode cL_law 441 = .ok (.iadd, 1) := by decide +kernel
theorem dL_law_442 : decode cL_law 442 = .ok (.iaload, 1) := by decide +kernel
theorem dL_law_443 : decode cL_law 443 = .ok (.aload_n 0, 1) := by decide +kernel
theorem dL_law_444 : decode cL_law 444 = .ok (.iload_n 3, 1) := by decide +kernel
theorem dL_law_445 : decode cL_law 445 = .ok (.iconst 2, 1) := by decide +kernel
theorem dL_law_446 : decode cL_law 446 = .ok (.iadd, 1) := by decide +kernel
theorem dL_law_447 : decode cL_law 447 = .ok (.iaload, 1) := by decide +kernel
theorem dL_law_448 : decode cL_law 448 = .ok (.invokevirtual 57, 3) := by decide +kernel
theorem dL_law_451 : decode cL_law 451 = .ok (.if_icmp .eq 352, 3) := by decide +kernel
theorem dL_law_454 : decode cL_law 454 = .ok (.iconst 0, 1) := by decide +kernel
theorem dL_law_455 : decode cL_law 455 = .ok (.ireturn, 1) := by decide +kernel
theorem dL_law_456 : decode cL_law 456 = .ok (.aload_n 1, 1) := by decide +kernel
theorem dL_law_457 : decode cL_law 457 = .ok (.aload_n 0, 1) := by decide +kernel
theorem dL_law_458 : decode cL_law 458 = .ok (.iload_n 3, 1) := by decide +kernel
theorem dL_law_459 : decode cL_law 459 = .ok (.iconst 1, 1) := by decide +kernel
theorem dL_law_460 : decode cL_law 460 = .ok (.iadd, 1) := by decide +kernel
theorem dL_law_461 : decode cL_law 461 = .ok (.iaload, 1) := by decide +kernel
theorem dL_law_462 : decode cL_law 462 = .ok (.aload_n 0, 1) := by decide +kernel
theorem dL_law_463 : decode cL_law 463 = .ok (.iload_n 3, 1) := by decide +kernel
theorem dL_law_464 : decode cL_law 464 = .ok (.iconst 2, 1) := by decide +kernel
theorem dL_law_465 : decode cL_law 465 = .ok (.iadd, 1) := by decide +kernel
theorem dL_law_466 : decode cL_law 466 = .ok (.iaload, 1) := by decide +kernel
theorem dL_law_467 : decode cL_law 467 = .ok (.invokevirtual 58, 3) := by decide +kernel
theorem dL_law_470 : decode cL_law 470 = .ok (.aload_n 2, 1) := by decide +kernel
theorem dL_law_471 : decode cL_law 471 = .ok (.aload_n 0, 1) := by decide +kernel
theorem dL_law_472 : decode cL_law 472 = .ok (.iload_n 3, 1) := by decide +kernel
theorem dL_law_473 : decode cL_law 473 = .ok (.iconst 1, 1) := by decide +kernel
theorem dL_law_474 : decode cL_law 474 = .ok (.iadd, 1) := by decide +kernel
theorem dL_law_475 : decode cL_law 475 = .ok (.iaload, 1) := by decide +kernel
theorem dL_law_476 : decode cL_law 476 = .ok (.aload_n 0, 1) := by decide +kernel
theorem dL_law_477 : decode cL_law 477 = .ok (.iload_n 3, 1) := by decide +kernel
theorem dL_law_478 : decode cL_law 478 = .ok (.iconst 2, 1) := by decide +kernel
theorem dL_law_479 : decode cL_law 479 = .ok (.iadd, 1) := by decide +kernel
theorem dL_law_480 : decode cL_law 480 = .ok (.iaload, 1) := by decide +kernel
theorem dL_law_481 : decode cL_law 481 = .ok (.invokevirtual 61, 3) := by decide +kernel
theorem dL_law_484 : decode cL_law 484 = .ok (.if_icmp .eq 319, 3) := by decide +kernel
theorem dL_law_487 : decode cL_law 487 = .ok (.iconst 0, 1) := by decide +kernel
theorem dL_law_488 : decode cL_law 488 = .ok (.ireturn, 1) := by decide +kernel
theorem dL_law_489 : decode cL_law 489 = .ok (.aload_n 1, 1) := by decide +kernel
theorem dL_law_490 : decode cL_law 490 = .ok (.aload_n 0, 1) := by decide +kernel
theorem dL_law_491 : decode cL_law 491 = .ok (.iload_n 3, 1) := by decide +kernel
theorem dL_law_492 : decode cL_law 492 = .ok (.iconst 1, 1) := by decide +kernel
theorem dL_law_493 : decode cL_law 493 = .ok (.iadd, 1) := by decide +kernel
theorem dL_law_494 : decode cL_law 494 = .ok (.iaload, 1) := by decide +kernel
theorem dL_law_495 : decode cL_law 495 = .ok (.aload_n 0, 1) := by decide +kernel
theorem dL_law_496 : decode cL_law 496 = .ok (.iload_n 3, 1) := by decide +kernel
theorem dL_law_497 : decode cL_law 497 = .ok (.iconst 2, 1) := by decide +kernel
theorem dL_law_498 : decode cL_law 498 = .ok (.iadd, 1) := by decide +kernel
theorem dL_law_499 : decode cL_law 499 = .ok (.iaload, 1) := by decide +kernel
theorem dL_law_500 : decode cL_law 500 = .ok (.invokevirtual 62, 3) := by decide +kernel
theorem dL_law_503 : decode cL_law 503 = .ok (.aload_n 2, 1) := by decide +kernel
theorem dL_law_504 : decode cL_law 504 = .ok (.aload_n 0, 1) := by decide +kernel
theorem dL_law_505 : decode cL_law 505 = .ok (.iload_n 3, 1) := by decide +kernel
theorem dL_law_506 : decode cL_law 506 = .ok (.iconst 1, 1) := by decide +kernel
theorem dL_law_507 : decode cL_law 507 = .ok (.iadd, 1) := by decide +kernel
theorem dL_law_508 : decode cL_law 508 = .ok (.iaload, 1) := by decide +kernel
theorem dL_law_509 : decode cL_law 509 = .ok (.aload_n 0, 1) := by decide +kernel
theorem dL_law_510 : decode cL_law 510 = .ok (.iload_n 3, 1) := by decide +kernel
theorem dL_law_511 : decode cL_law 511 = .ok (.iconst 2, 1) := by decide +kernel
theorem dL_law_512 : decode cL_law 512 = .ok (.iadd, 1) := by decide +kernel
theorem dL_law_513 : decode cL_law 513 = .ok (.iaload, 1) := by decide +kernel
theorem dL_law_514 : decode cL_law 514 = .ok (.invokevirtual 65, 3) := by decide +kernel
theorem dL_law_517 : decode cL_law 517 = .ok (.if_icmp .eq 286, 3) := by decide +kernel
theorem dL_law_520 : decode cL_law 520 = .ok (.iconst 0, 1) := by decide +kernel
theorem dL_law_521 : decode cL_law 521 = .ok (.ireturn, 1) := by decide +kernel
theorem dL_law_522 : decode cL_law 522 = .ok (.aload_n 1, 1) := by decide +kernel
theorem dL_law_523 : decode cL_law 523 = .ok (.aload_n 0, 1) := by decide +kernel
theorem dL_law_524 : decode cL_law 524 = .ok (.iload_n 3, 1) := by decide +kernel
theorem dL_law_525 : decode cL_law 525 = .ok (.iconst 1, 1) := by decide +kernel
theorem dL_law_526 : decode cL_law 526 = .ok (.iadd, 1) := by decide +kernel
theorem dL_law_527 : decode cL_law 527 = .ok (.iaload, 1) := by decide +kernel
theorem dL_law_528 : decode cL_law 528 = .ok (.invokevirtual 66, 3) := by decide +kernel
theorem dL_law_531 : decode cL_law 531 = .ok (.aload_n 2, 1) := by decide +kernel
theorem dL_law_532 : decode cL_law 532 = .ok (.aload_n 0, 1) := by decide +kernel
theorem dL_law_533 : decode cL_law 533 = .ok (.iload_n 3, 1) := by decide +kernel
theorem dL_law_534 : decode cL_law 534 = .ok (.iconst 1, 1) := by decide +kernel
theorem dL_law_535 : decode cL_law 535 = .ok (.iadd, 1) := by decide +kernel
theorem dL_law_536 : decode cL_law 536 = .ok (.iaload, 1) := by decide +kernel
theorem dL_law_537 : decode cL_law 537 = .ok (.invokevirtual 69, 3) := by decide +kernel
theorem dL_law_540 : decode cL_law 540 = .ok (.if_icmp .eq 263, 3) := by decide +kernel
theorem dL_law_543 : decode cL_law 543 = .ok (.iconst 0, 1) := by decide +kernel
theorem dL_law_544 : decode cL_law 544 = .ok (.ireturn, 1) := by decide +kernel
theorem dL_law_545 : decode cL_law 545 = .ok (.aload_n 1, 1) := by decide +kernel
theorem dL_law_546 : decode cL_law 546 = .ok (.aload_n 0, 1) := by decide +kernel
theorem dL_law_547 : decode cL_law 547 = .ok (.iload_n 3, 1) := by decide +kernel
theorem dL_law_548 : decode cL_law 548 = .ok (.iconst 1, 1) := by decide +kernel
theorem dL_law_549 : decode cL_law 549 = .ok (.iadd, 1) := by decide +kernel
theorem dL_law_550 : decode cL_law 550 = .ok (.iaload, 1) := by decide +kernel
theorem dL_law_551 : decode cL_law 551 = .ok (.i2l, 1) := by decide +kernel
theorem dL_law_552 : decode cL_law 552 = .ok (.bipush 32, 2) := by decide +kernel
theorem dL_law_554 : decode cL_law 554 = .ok (.lshl, 1) := by decide +kernel
theorem dL_law_555 : decode cL_law 555 = .ok (.aload_n 0, 1) := by decide +kernel
theorem dL_law_556 : decode cL_law 556 = .ok (.iload_n 3, 1) := by decide +kernel
theorem dL_law_557 : decode cL_law 557 = .ok (.iconst 2, 1) := by decide +kernel
theorem dL_law_558 : decode cL_law 558 = .ok (.iadd, 1) := by decide +kernel
theorem dL_law_559 : decode cL_law 559 = .ok (.iaload, 1) := by decide +kernel
theorem dL_law_560 : decode cL_law 560 = .ok (.i2l, 1) := by decide +kernel
theorem dL_law_561 : decode cL_law 561 = .ok (.ldc2_w 70, 3) := by decide +kernel
theorem dL_law_564 : decode cL_law 564 = .ok (.land, 1) := by decide +kernel
theorem dL_law_565 : decode cL_law 565 = .ok (.lor, 1) := by decide +kernel
theorem dL_law_566 : decode cL_law 566 = .ok (.aload_n 0, 1) := by decide +kernel
theorem dL_law_567 : decode cL_law 567 = .ok (.iload_n 3, 1) := by decide +kernel
theorem dL_law_568 : decode cL_law 568 = .ok (.iconst 3, 1) := by decide +kernel
theorem dL_law_569 : decode cL_law 569 = .ok (.iadd, 1) := by decide +kernel
theorem dL_law_570 : decode cL_law 570 = .ok (.iaload, 1) := by decide +kernel
theorem dL_law_571 : decode cL_law 571 = .ok (.invokevirtual 72, 3) := by decide +kernel
theorem dL_law_574 : decode cL_law 574 = .ok (.aload_n 2, 1) := by decide +kernel
theorem dL_law_575 : decode cL_law 575 = .ok (.aload_n 0, 1) := by decide +kernel
theorem dL_law_576 : decode cL_law 576 = .ok (.iload_n 3, 1) := by decide +kernel
theorem dL_law_577 : decode cL_law 577 = .ok (.iconst 1, 1) := by decide +kernel
theorem dL_law_578 : decode cL_law 578 = .ok (.iadd, 1) := by decide +kernel
theorem dL_law_579 : decode cL_law 579 = .ok (.iaload, 1) := by decide +kernel
theorem dL_law_580 : decode cL_law 580 = .ok (.i2l, 1) := by decide +kernel
theorem dL_law_581 : decode cL_law 581 = .ok (.bipush 32, 2) := by decide +kernel
theorem dL_law_583 : decode cL_law 583 = .ok (.lshl, 1) := by decide +kernel
theorem dL_law_584 : decode cL_law 584 = .ok (.aload_n 0, 1) := by decide +kernel
theorem dL_law_585 : decode cL_law 585 = .ok (.iload_n 3, 1) := by decide +kernel
theorem dL_law_586 : decode cL_law 586 = .ok (.iconst 2, 1) := by decide +kernel
theorem dL_law_587 : decode cL_law 587 = .ok (.iadd, 1) := by decide +kernel
theorem dL_law_588 : decode cL_law 588 = .ok (.iaload, 1) := by decide +kernel
theorem dL_law_589 : decode cL_law 589 = .ok (.i2l, 1) := by decide +kernel
theorem dL_law_590 : decode cL_law 590 = .ok (.ldc2_w 70, 3) := by decide +kernel
theorem dL_law_593 : decode cL_law 593 = .ok (.land, 1) := by decide +kernel
theorem dL_law_594 : decode cL_law 594 = .ok (.lor, 1) := by decide +kernel
theorem dL_law_595 : decode cL_law 595 = .ok (.aload_n 0, 1) := by decide +kernel
theorem dL_law_596 : decode cL_law 596 = .ok (.iload_n 3, 1) := by decide +kernel
theorem dL_law_597 : decode cL_law 597 = .ok (.iconst 3, 1) := by decide +kernel
theorem dL_law_598 : decode cL_law 598 = .ok (.iadd, 1) := by decide +kernel
theorem dL_law_599 : decode cL_law 599 = .ok (.iaload, 1) := by decide +kernel
theorem dL_law_600 : decode cL_law 600 = .ok (.invokevirtual 76, 3) := by decide +kernel
theorem dL_law_603 : decode cL_law 603 = .ok (.if_icmp .eq 200, 3) := by decide +kernel
theorem dL_law_606 : decode cL_law 606 = .ok (.iconst 0, 1) := by decide +kernel
theorem dL_law_607 : decode cL_law 607 = .ok (.ireturn, 1) := by decide +kernel
theorem dL_law_608 : decode cL_law 608 = .ok (.aload_n 1, 1) := by decide +kernel
theorem dL_law_609 : decode cL_law 609 = .ok (.invokevirtual 77, 3) := by decide +kernel
theorem dL_law_612 : decode cL_law 612 = .ok (.aload_n 2, 1) := by decide +kernel
theorem dL_law_613 : decode cL_law 613 = .ok (.invokevirtual 80, 3) := by decide +kernel
theorem dL_law_616 : decode cL_law 616 = .ok (.if_icmp .eq 187, 3) := by decide +kernel
theorem dL_law_619 : decode cL_law 619 = .ok (.iconst 0, 1) := by decide +kernel
theorem dL_law_620 : decode cL_law 620 = .ok (.ireturn, 1) := by decide +kernel
theorem dL_law_621 : decode cL_law 621 = .ok (.aload_n 1, 1) := by decide +kernel
theorem dL_law_622 : decode cL_law 622 = .ok (.invokevirtual 81, 3) := by decide +kernel
theorem dL_law_625 : decode cL_law 625 = .ok (.aload_n 2, 1) := by decide +kernel
theorem dL_law_626 : decode cL_law 626 = .ok (.invokevirtual 84, 3) := by decide +kernel
theorem dL_law_629 : decode cL_law 629 = .ok (.if_icmp .eq 174, 3) := by decide +kernel
theorem dL_law_632 : decode cL_law 632 = .ok (.iconst 0, 1) := by decide +kernel
theorem dL_law_633 : decode cL_law 633 = .ok (.ireturn, 1) := by decide +kernel
theorem dL_law_634 : decode cL_law 634 = .ok (.aload_n 1, 1) := by decide +kernel
theorem dL_law_635 : decode cL_law 635 = .ok (.aload_n 0, 1) := by decide +kernel
theorem dL_law_636 : decode cL_law 636 = .ok (.iload_n 3, 1) := by decide +kernel
theorem dL_law_637 : decode cL_law 637 = .ok (.iconst 1, 1) := by decide +kernel
theorem dL_law_638 : decode cL_law 638 = .ok (.iadd, 1) := by decide +kernel
theorem dL_law_639 : decode cL_law 639 = .ok (.iaload, 1) := by decide +kernel
theorem dL_law_640 : decode cL_law 640 = .ok (.aload_n 0, 1) := by decide +kernel
theorem dL_law_641 : decode cL_law 641 = .ok (.iload_n 3, 1) := by decide +kernel
theorem dL_law_642 : decode cL_law 642 = .ok (.iconst 2, 1) := by decide +kernel
theorem dL_law_643 : decode cL_law 643 = .ok (.iadd, 1) := by decide +kernel
theorem dL_law_644 : decode cL_law 644 = .ok (.iaload, 1) := by decide +kernel
theorem dL_law_645 : decode cL_law 645 = .ok (.invokevirtual 85, 3) := by decide +kernel
theorem dL_law_648 : decode cL_law 648 = .ok (.aload_n 2, 1) := by decide +kernel
theorem dL_law_649 : decode cL_law 649 = .ok (.aload_n 0, 1) := by decide +kernel
theorem dL_law_650 : decode cL_law 650 = .ok (.iload_n 3, 1) := by decide +kernel
theorem dL_law_651 : decode cL_law 651 = .ok (.iconst 1, 1) := by decide +kernel
theorem dL_law_652 : decode cL_law 652 = .ok (.iadd, 1) := by decide +kernel
theorem dL_law_653 : decode cL_law 653 = .ok (.iaload, 1) := by decide +kernel
theorem dL_law_654 : decode cL_law 654 = .ok (.aload_n 0, 1) := by decide +kernel
theorem dL_law_655 : decode cL_law 655 = .ok (.iload_n 3, 1) := by decide +kernel
theorem dL_law_656 : decode cL_law 656 = .ok (.iconst 2, 1) := by decide +kernel
theorem dL_law_657 : decode cL_law 657 = .ok (.iadd, 1) := by decide +kernel
theorem dL_law_658 : decode cL_law 658 = .ok (.iaload, 1) := by decide +kernel
theorem dL_law_659 : decode cL_law 659 = .ok (.invokevirtual 88, 3) := by decide +kernel
theorem dL_law_662 : decode cL_law 662 = .ok (.if_icmp .eq 141, 3) := by decide +kernel
theorem dL_law_665 : decode cL_law 665 = .ok (.iconst 0, 1) := by decide +kernel
theorem dL_law_666 : decode cL_law 666 = .ok (.ireturn, 1) := by decide +kernel
theorem dL_law_667 : decode cL_law 667 = .ok (.aload_n 1, 1) := by decide +kernel
theorem dL_law_668 : decode cL_law 668 = .ok (.aload_n 0, 1) := by decide +kernel
theorem dL_law_669 : decode cL_law 669 = .ok (.iload_n 3, 1) := by decide +kernel
theorem dL_law_670 : decode cL_law 670 = .ok (.iconst 1, 1) := by decide +kernel
theorem dL_law_671 : decode cL_law 671 = .ok (.iadd, 1) := by decide +kernel
theorem dL_law_672 : decode cL_law 672 = .ok (.iaload, 1) := by decide +kernel
theorem dL_law_673 : decode cL_law 673 = .ok (.invokevirtual 89, 3) := by decide +kernel
theorem dL_law_676 : decode cL_law 676 = .ok (.aload_n 2, 1) := by decide +kernel
theorem dL_law_677 : decode cL_law 677 = .ok (.aload_n 0, 1) := by decide +kernel
theorem dL_law_678 : decode cL_law 678 = .ok (.iload_n 3, 1) := by decide +kernel
theorem dL_law_679 : decode cL_law 679 = .ok (.iconst 1, 1) := by decide +kernel
theorem dL_law_680 : decode cL_law 680 = .ok (.iadd, 1) := by decide +kernel
theorem dL_law_681 : decode cL_law 681 = .ok (.iaload, 1) := by decide +kernel
theorem dL_law_682 : decode cL_law 682 = .ok (.invokevirtual 92, 3) := by decide +kernel
theorem dL_law_685 : decode cL_law 685 = .ok (.if_icmp .eq 118, 3) := by decide +kernel
theorem dL_law_688 : decode cL_law 688 = .ok (.iconst 0, 1) := by decide +kernel
theorem dL_law_689 : decode cL_law 689 = .ok (.ireturn, 1) := by decide +kernel
theorem dL_law_690 : decode cL_law 690 = .ok (.aload_n 1, 1) := by decide +kernel
theorem dL_law_691 : decode cL_law 691 = .ok (.aload_n 0, 1) := by decide +kernel
theorem dL_law_692 : decode cL_law 692 = .ok (.iload_n 3, 1) := by decide +kernel
theorem dL_law_693 : decode cL_law 693 = .ok (.iconst 1, 1) := by decide +kernel
theorem dL_law_694 : decode cL_law 694 = .ok (.iadd, 1) := by decide +kernel
theorem dL_law_695 : decode cL_law 695 = .ok (.iaload, 1) := by decide +kernel
theorem dL_law_696 : decode cL_law 696 = .ok (.aload_n 0, 1) := by decide +kernel
theorem dL_law_697 : decode cL_law 697 = .ok (.iload_n 3, 1) := by decide +kernel
theorem dL_law_698 : decode cL_law 698 = .ok (.iconst 2, 1) := by decide +kernel
theorem dL_law_699 : decode cL_law 699 = .ok (.iadd, 1) := by decide +kernel
theorem dL_law_700 : decode cL_law 700 = .ok (.iaload, 1) := by decide +kernel
theorem dL_law_701 : decode cL_law 701 = .ok (.invokevirtual 93, 3) := by decide +kernel
theorem dL_law_704 : decode cL_law 704 = .ok (.aload_n 2, 1) := by decide +kernel
theorem dL_law_705 : decode cL_law 705 = .ok (.aload_n 0, 1) := by decide +kernel
theorem dL_law_706 : decode cL_law 706 = .ok (.iload_n 3, 1) := by decide +kernel
theorem dL_law_707 : decode cL_law 707 = .ok (.iconst 1, 1) := by decide +kernel
theorem dL_law_708 : decode cL_law 708 = .ok (.iadd, 1) := by decide +kernel
theorem dL_law_709 : decode cL_law 709 = .ok (.iaload, 1) := by decide +kernel
theorem dL_law_710 : decode cL_law 710 = .ok (.aload_n 0, 1) := by decide +kernel
theorem dL_law_711 : decode cL_law 711 = .ok (.iload_n 3, 1) := by decide +kernel
theorem dL_law_712 : decode cL_law 712 = .ok (.iconst 2, 1) := by decide +kernel
theorem dL_law_713 : decode cL_law 713 = .ok (.iadd, 1) := by decide +kernel
theorem dL_law_714 : decode cL_law 714 = .ok (.iaload, 1) := by decide +kernel
theorem dL_law_715 : decode cL_law 715 = .ok (.invokevirtual 96, 3) := by decide +kernel
theorem dL_law_718 : decode cL_law 718 = .ok (.if_icmp .eq 85, 3) := by decide +kernel
theorem dL_law_721 : decode cL_law 721 = .ok (.iconst 0, 1) := by decide +kernel
theorem dL_law_722 : decode cL_law 722 = .ok (.ireturn, 1) := by decide +kernel
theorem dL_law_723 : decode cL_law 723 = .ok (.aload_n 1, 1) := by decide +kernel
theorem dL_law_724 : decode cL_law 724 = .ok (.aload_n 0, 1) := by decide +kernel
theorem dL_law_725 : decode cL_law 725 = .ok (.iload_n 3, 1) := by decide +kernel
theorem dL_law_726 : decode cL_law 726 = .ok (.iconst 1, 1) := by decide +kernel
theorem dL_law_727 : decode cL_law 727 = .ok (.iadd, 1) := by decide +kernel
theorem dL_law_728 : decode cL_law 728 = .ok (.iaload, 1) := by decide +kernel
theorem dL_law_729 : decode cL_law 729 = .ok (.aload_n 0, 1) := by decide +kernel
theorem dL_law_730 : decode cL_law 730 = .ok (.iload_n 3, 1) := by decide +kernel
theorem dL_law_731 : decode cL_law 731 = .ok (.iconst 2, 1) := by decide +kernel
theorem dL_law_732 : decode cL_law 732 = .ok (.iadd, 1) := by decide +kernel
theorem dL_law_733 : decode cL_law 733 = .ok (.iaload, 1) := by decide +kernel
theorem dL_law_734 : decode cL_law 734 = .ok (.invokevirtual 97, 3) := by decide +kernel
theorem dL_law_737 : decode cL_law 737 = .ok (.aload_n 2, 1) := by decide +kernel
theorem dL_law_738 : decode cL_law 738 = .ok (.aload_n 0, 1) := by decide +kernel
theorem dL_law_739 : decode cL_law 739 = .ok (.iload_n 3, 1) := by decide +kernel
theorem dL_law_740 : decode cL_law 740 = .ok (.iconst 1, 1) := by decide +kernel
theorem dL_law_741 : decode cL_law 741 = .ok (.iadd, 1) := by decide +kernel
theorem dL_law_742 : decode cL_law 742 = .ok (.iaload, 1) := by decide +kernel
theorem dL_law_743 : decode cL_law 743 = .ok (.aload_n 0, 1) := by decide +kernel
theorem dL_law_744 : decode cL_law 744 = .ok (.iload_n 3, 1) := by decide +kernel
theorem dL_law_745 : decode cL_law 745 = .ok (.iconst 2, 1) := by decide +kernel
theorem dL_law_746 : decode cL_law 746 = .ok (.iadd, 1) := by decide +kernel
theorem dL_law_747 : decode cL_law 747 = .ok (.iaload, 1) := by decide +kernel
theorem dL_law_748 : decode cL_law 748 = .ok (.invokevirtual 100, 3) := by decide +kernel
theorem dL_law_751 : decode cL_law 751 = .ok (.if_icmp .eq 52, 3) := by decide +kernel
theorem dL_law_754 : decode cL_law 754 = .ok (.iconst 0, 1) := by decide +kernel
theorem dL_law_755 : decode cL_law 755 = .ok (.ireturn, 1) := by decide +kernel
theorem dL_law_756 : decode cL_law 756 = .ok (.aload_n 1, 1) := by decide +kernel
theorem dL_law_757 : decode cL_law 757 = .ok (.aload_n 0, 1) := by decide +kernel
theorem dL_law_758 : decode cL_law 758 = .ok (.iload_n 3, 1) := by decide +kernel
theorem dL_law_759 : decode cL_law 759 = .ok (.iconst 1, 1) := by decide +kernel
theorem dL_law_760 : decode cL_law 760 = .ok (.iadd, 1) := by decide +kernel
theorem dL_law_761 : decode cL_law 761 = .ok (.iaload, 1) := by decide +kernel
theorem dL_law_762 : decode cL_law 762 = .ok (.invokevirtual 101, 3) := by decide +kernel
theorem dL_law_765 : decode cL_law 765 = .ok (.aload_n 2, 1) := by decide +kernel
theorem dL_law_766 : decode cL_law 766 = .ok (.aload_n 0, 1) := by decide +kernel
theorem dL_law_767 : decode cL_law 767 = .ok (.iload_n 3, 1) := by decide +kernel
theorem dL_law_768 : decode cL_law 768 = .ok (.iconst 1, 1) := by decide +kernel
theorem dL_law_769 : decode cL_law 769 = .ok (.iadd, 1) := by decide +kernel
theorem dL_law_770 : decode cL_law 770 = .ok (.iaload, 1) := by decide +kernel
theorem dL_law_771 : decode cL_law 771 = .ok (.invokevirtual 104, 3) := by decide +kernel
theorem dL_law_774 : decode cL_law 774 = .ok (.if_icmp .eq 29, 3) := by decide +kernel
theorem dL_law_777 : decode cL_law 777 = .ok (.iconst 0, 1) := by decide +kernel
theorem dL_law_778 : decode cL_law 778 = .ok (.ireturn, 1) := by decide +kernel
theorem dL_law_779 : decode cL_law 779 = .ok (.aload_n 1, 1) := by decide +kernel
theorem dL_law_780 : decode cL_law 780 = .ok (.aload_n 0, 1) := by decide +kernel
theorem dL_law_781 : decode cL_law 781 = .ok (.iload_n 3, 1) := by decide +kernel
theorem dL_law_782 : decode cL_law 782 = .ok (.iconst 1, 1) := by decide +kernel
theorem dL_law_783 : decode cL_law 783 = .ok (.iadd, 1) := by decide +kernel
theorem dL_law_784 : decode cL_law 784 = .ok (.iaload, 1) := by decide +kernel
theorem dL_law_785 : decode cL_law 785 = .ok (.invokevirtual 105, 3) := by decide +kernel
theorem dL_law_788 : decode cL_law 788 = .ok (.aload_n 2, 1) := by decide +kernel
theorem dL_law_789 : decode cL_law 789 = .ok (.aload_n 0, 1) := by decide +kernel
theorem dL_law_790 : decode cL_law 790 = .ok (.iload_n 3, 1) := by decide +kernel
theorem dL_law_791 : decode cL_law 791 = .ok (.iconst 1, 1) := by decide +kernel
theorem dL_law_792 : decode cL_law 792 = .ok (.iadd, 1) := by decide +kernel
theorem dL_law_793 : decode cL_law 793 = .ok (.iaload, 1) := by decide +kernel
theorem dL_law_794 : decode cL_law 794 = .ok (.invokevirtual 109, 3) := by decide +kernel
theorem dL_law_797 : decode cL_law 797 = .ok (.lcmp, 1) := by decide +kernel
theorem dL_law_798 : decode cL_law 798 = .ok (.ifCond .eq 5, 3) := by decide +kernel
theorem dL_law_801 : decode cL_law 801 = .ok (.iconst 0, 1) := by decide +kernel
theorem dL_law_802 : decode cL_law 802 = .ok (.ireturn, 1) := by decide +kernel
theorem dL_law_803 : decode cL_law 803 = .ok (.iinc 3 6, 3) := by decide +kernel
theorem dL_law_806 : decode cL_law 806 = .ok (.goto (-788), 3) := by decide +kernel
theorem dL_law_809 : decode cL_law 809 = .ok (.iconst 1, 1) := by decide +kernel
theorem dL_law_810 : decode cL_law 810 = .ok (.ireturn, 1) := by decide +kernel
end
section
theorem dJ6_bitCount_0f7a4_0 : decode cJ6_bitCount_0f7a4 0 = .ok (.iload_n 0, 1) := by decide +kernel
theorem dJ6_bitCount_0f7a4_1 : decode cJ6_bitCount_0f7a4 1 = .ok (.iload_n 0, 1) := by decide +kernel
theorem dJ6_bitCount_0f7a4_2 : decode cJ6_bitCount_0f7a4 2 = .ok (.iconst 1, 1) := by decide +kernel
theorem dJ6_bitCount_0f7a4_3 : decode cJ6_bitCount_0f7a4 3 = .ok (.iushr, 1) := by decide +kernel
theorem dJ6_bitCount_0f7a4_4 : decode cJ6_bitCount_0f7a4 4 = .ok (.ldc_w 265, 3) := by decide +kernel
theorem dJ6_bitCount_0f7a4_7 : decode cJ6_bitCount_0f7a4 7 = .ok (.iand, 1) := by decide +kernel
theorem dJ6_bitCount_0f7a4_8 : decode cJ6_bitCount_0f7a4 8 = .ok (.isub, 1) := by decide +kernel
theorem dJ6_bitCount_0f7a4_9 : decode cJ6_bitCount_0f7a4 9 = .ok (.istore_n 0, 1) := by decide +kernel
theorem dJ6_bitCount_0f7a4_10 : decode cJ6_bitCount_0f7a4 10 = .ok (.iload_n 0, 1) := by decide +kernel
theorem dJ6_bitCount_0f7a4_11 : decode cJ6_bitCount_0f7a4 11 = .ok (.ldc_w 266, 3) := by decide +kernel
theorem dJ6_bitCount_0f7a4_14 : decode cJ6_bitCount_0f7a4 14 = .ok (.iand, 1) := by decide +kernel
theorem dJ6_bitCount_0f7a4_15 : decode cJ6_bitCount_0f7a4 15 = .ok (.iload_n 0, 1) := by decide +kernel
theorem dJ6_bitCount_0f7a4_16 : decode cJ6_bitCount_0f7a4 16 = .ok (.iconst 2, 1) := by decide +kernel
theorem dJ6_bitCount_0f7a4_17 : decode cJ6_bitCount_0f7a4 17 = .ok (.iushr, 1) := by decide +kernel
theorem dJ6_bitCount_0f7a4_18 : decode cJ6_bitCount_0f7a4 18 = .ok (.ldc_w 266, 3) := by decide +kernel
theorem dJ6_bitCount_0f7a4_21 : decode cJ6_bitCount_0f7a4 21 = .ok (.iand, 1) := by decide +kernel
theorem dJ6_bitCount_0f7a4_22 : decode cJ6_bitCount_0f7a4 22 = .ok (.iadd, 1) := by decide +kernel
theorem dJ6_bitCount_0f7a4_23 : decode cJ6_bitCount_0f7a4 23 = .ok (.istore_n 0, 1) := by decide +kernel
theorem dJ6_bitCount_0f7a4_24 : decode cJ6_bitCount_0f7a4 24 = .ok (.iload_n 0, 1) := by decide +kernel
theorem dJ6_bitCount_0f7a4_25 : decode cJ6_bitCount_0f7a4 25 = .ok (.iload_n 0, 1) := by decide +kernel
theorem dJ6_bitCount_0f7a4_26 : decode cJ6_bitCount_0f7a4 26 = .ok (.iconst 4, 1) := by decide +kernel
theorem dJ6_bitCount_0f7a4_27 : decode cJ6_bitCount_0f7a4 27 = .ok (.iushr, 1) := by decide +kernel
theorem dJ6_bitCount_0f7a4_28 : decode cJ6_bitCount_0f7a4 28 = .ok (.iadd, 1) := by decide +kernel
theorem dJ6_bitCount_0f7a4_29 : decode cJ6_bitCount_0f7a4 29 = .ok (.ldc_w 267, 3) := by decide +kernel
theorem dJ6_bitCount_0f7a4_32 : decode cJ6_bitCount_0f7a4 32 = .ok (.iand, 1) := by decide +kernel
theorem dJ6_bitCount_0f7a4_33 : decode cJ6_bitCount_0f7a4 33 = .ok (.istore_n 0, 1) := by decide +kernel
theorem dJ6_bitCount_0f7a4_34 : decode cJ6_bitCount_0f7a4 34 = .ok (.iload_n 0, 1) := by decide +kernel
theorem dJ6_bitCount_0f7a4_35 : decode cJ6_bitCount_0f7a4 35 = .ok (.iload_n 0, 1) := by decide +kernel
theorem dJ6_bitCount_0f7a4_36 : decode cJ6_bitCount_0f7a4 36 = .ok (.bipush 8, 2) := by decide +kernel
theorem dJ6_bitCount_0f7a4_38 : decode cJ6_bitCount_0f7a4 38 = .ok (.iushr, 1) := by decide +kernel
theorem dJ6_bitCount_0f7a4_39 : decode cJ6_bitCount_0f7a4 39 = .ok (.iadd, 1) := by decide +kernel
theorem dJ6_bitCount_0f7a4_40 : decode cJ6_bitCount_0f7a4 40 = .ok (.istore_n 0, 1) := by decide +kernel
theorem dJ6_bitCount_0f7a4_41 : decode cJ6_bitCount_0f7a4 41 = .ok (.iload_n 0, 1) := by decide +kernel
theorem dJ6_bitCount_0f7a4_42 : decode cJ6_bitCount_0f7a4 42 = .ok (.iload_n 0, 1) := by decide +kernel
theorem dJ6_bitCount_0f7a4_43 : decode cJ6_bitCount_0f7a4 43 = .ok (.bipush 16, 2) := by decide +kernel
theorem dJ6_bitCount_0f7a4_45 : decode cJ6_bitCount_0f7a4 45 = .ok (.iushr, 1) := by decide +kernel
theorem dJ6_bitCount_0f7a4_46 : decode cJ6_bitCount_0f7a4 46 = .ok (.iadd, 1) := by decide +kernel
theorem dJ6_bitCount_0f7a4_47 : decode cJ6_bitCount_0f7a4 47 = .ok (.istore_n 0, 1) := by decide +kernel
theorem dJ6_bitCount_0f7a4_48 : decode cJ6_bitCount_0f7a4 48 = .ok (.iload_n 0, 1) := by decide +kernel
theorem dJ6_bitCount_0f7a4_49 : decode cJ6_bitCount_0f7a4 49 = .ok (.bipush 63, 2) := by decide +kernel
theorem dJ6_bitCount_0f7a4_51 : decode cJ6_bitCount_0f7a4 51 = .ok (.iand, 1) := by decide +kernel
theorem dJ6_bitCount_0f7a4_52 : decode cJ6_bitCount_0f7a4 52 = .ok (.ireturn, 1) := by decide +kernel
theorem dJ9_floorDiv_7cf53_0 : decode cJ9_floorDiv_7cf53 0 = .ok (.iload_n 0, 1) := by decide +kernel
theorem dJ9_floorDiv_7cf53_1 : decode cJ9_floorDiv_7cf53 1 = .ok (.iload_n 1, 1) := by decide +kernel
theorem dJ9_floorDiv_7cf53_2 : decode cJ9_floorDiv_7cf53 2 = .ok (.idiv, 1) := by decide +kernel
theorem dJ9_floorDiv_7cf53_3 : decode cJ9_floorDiv_7cf53 3 = .ok (.istore_n 2, 1) := by decide +kernel
theorem dJ9_floorDiv_7cf53_4 : decode cJ9_floorDiv_7cf53 4 = .ok (.iload_n 0, 1) := by decide +kernel
theorem dJ9_floorDiv_7cf53_5 : decode cJ9_floorDiv_7cf53 5 = .ok (.iload_n 1, 1) := by decide +kernel
theorem dJ9_floorDiv_7cf53_6 : decode cJ9_floorDiv_7cf53 6 = .ok (.ixor, 1) := by decide +kernel
theorem dJ9_floorDiv_7cf53_7 : decode cJ9_floorDiv_7cf53 7 = .ok (.ifCond .ge 14, 3) := by decide +kernel
theorem dJ9_floorDiv_7cf53_10 : decode cJ9_floorDiv_7cf53 10 = .ok (.iload_n 2, 1) := by decide +kernel
theorem dJ9_floorDiv_7cf53_11 : decode cJ9_floorDiv_7cf53 11 = .ok (.iload_n 1, 1) := by decide +kernel
theorem dJ9_floorDiv_7cf53_12 : decode cJ9_floorDiv_7cf53 12 = .ok (.imul, 1) := by decide +kernel
theorem dJ9_floorDiv_7cf53_13 : decode cJ9_floorDiv_7cf53 13 = .ok (.iload_n 0, 1) := by decide +kernel
theorem dJ9_floorDiv_7cf53_14 : decode cJ9_floorDiv_7cf53 14 = .ok (.if_icmp .eq 7, 3) := by decide +kernel
theorem dJ9_floorDiv_7cf53_17 : decode cJ9_floorDiv_7cf53 17 = .ok (.iload_n 2, 1) := by decide +kernel
theorem dJ9_floorDiv_7cf53_18 : decode cJ9_floorDiv_7cf53 18 = .ok (.iconst 1, 1) := by decide +kernel
theorem dJ9_floorDiv_7cf53_19 : decode cJ9_floorDiv_7cf53 19 = .ok (.isub, 1) := by decide +kernel
theorem dJ9_floorDiv_7cf53_20 : decode cJ9_floorDiv_7cf53 20 = .ok (.ireturn, 1) := by decide +kernel
theorem dJ9_floorDiv_7cf53_21 : decode cJ9_floorDiv_7cf53 21 = .ok (.iload_n 2, 1) := by decide +kernel
theorem dJ9_floorDiv_7cf53_22 : decode cJ9_floorDiv_7cf53 22 = .ok (.ireturn, 1) := by decide +kernel
theorem dJ9_abs_0f7a4_0 : decode cJ9_abs_0f7a4 0 = .ok (.iload_n 0, 1) := by decide +kernel
theorem dJ9_abs_0f7a4_1 : decode cJ9_abs_0f7a4 1 = .ok (.ifCond .ge 8, 3) := by decide +kernel
theorem dJ9_abs_0f7a4_4 : decode cJ9_abs_0f7a4 4 = .ok (.iload_n 0, 1) := by decide +kernel
theorem dJ9_abs_0f7a4_5 : decode cJ9_abs_0f7a4 5 = .ok (.ineg, 1) := by decide +kernel
theorem dJ9_abs_0f7a4_6 : decode cJ9_abs_0f7a4 6 = .ok (.goto 4, 3) := by decide +kernel
theorem dJ9_abs_0f7a4_9 : decode cJ9_abs_0f7a4 9 = .ok (.iload_n 0, 1) := by decide +kernel
theorem dJ9_abs_0f7a4_10 : decode cJ9_abs_0f7a4 10 = .ok (.ireturn, 1) := by decide +kernel
theorem dJ9_max_7cf53_0 : decode cJ9_max_7cf53 0 = .ok (.iload_n 0, 1) := by decide +kernel
theorem dJ9_max_7cf53_1 : decode cJ9_max_7cf53 1 = .ok (.iload_n 1, 1) := by decide +kernel
theorem dJ9_max_7cf53_2 : decode cJ9_max_7cf53 2 = .ok (.if_icmp .lt 7, 3) := by decide +kernel
theorem dJ9_max_7cf53_5 : decode cJ9_max_7cf53 5 = .ok (.iload_n 0, 1) := by decide +kernel
theorem dJ9_max_7cf53_6 : decode cJ9_max_7cf53 6 = .ok (.goto 4, 3) := by decide +kernel
theorem dJ9_max_7cf53_9 : decode cJ9_max_7cf53 9 = .ok (.iload_n 1, 1) := by decide +kernel
theorem dJ9_max_7cf53_10 : decode cJ9_max_7cf53 10 = .ok (.ireturn, 1) := by decide +kernel
theorem dJ9_min_7cf53_0 : decode cJ9_min_7cf53 0 = .ok (.iload_n 0, 1) := by decide +kernel
theorem dJ9_min_7cf53_1 : decode cJ9_min_7cf53 1 = .ok (.iload_n 1, 1) := by decide +kernel
theorem dJ9_min_7cf53_2 : decode cJ9_min_7cf53 2 = .ok (.if_icmp .gt 7, 3) := by decide +kernel
theorem dJ9_min_7cf53_5 : decode cJ9_min_7cf53 5 = .ok (.iload_n 0, 1) := by decide +kernel
theorem dJ9_min_7cf53_6 : decode cJ9_min_7cf53 6 = .ok (.goto 4, 3) := by decide +kernel
theorem dJ9_min_7cf53_9 : decode cJ9_min_7cf53 9 = .ok (.iload_n 1, 1) := by decide +kernel
theorem dJ9_min_7cf53_10 : decode cJ9_min_7cf53 10 = .ok (.ireturn, 1) := by decide +kernel
theorem dJ0_length_8abf5_0 : decode cJ0_length_8abf5 0 = .ok (.aload_n 0, 1) := by decide +kernel
theorem dJ0_length_8abf5_1 : decode cJ0_length_8abf5 1 = .ok (.getfield 9, 3) := by decide +kernel
theorem dJ0_length_8abf5_4 : decode cJ0_length_8abf5 4 = .ok (.arraylength, 1) := by decide +kernel
theorem dJ0_length_8abf5_5 : decode cJ0_length_8abf5 5 = .ok (.aload_n 0, 1) := by decide +kernel
theorem dJ0_length_8abf5_6 : decode cJ0_length_8abf5 6 = .ok (.invokevirtual 335, 3) := by decide +kernel
theorem dJ0_length_8abf5_9 : decode cJ0_length_8abf5 9 = .ok (.ishr, 1) := by decide +kernel
theorem dJ0_length_8abf5_10 : decode cJ0_length_8abf5 10 = .ok (.ireturn, 1) := by decide +kernel
theorem dJ0_charAt_5068e_0 : decode cJ0_charAt_5068e 0 = .ok (.aload_n 0, 1) := by decide +kernel
theorem dJ0_charAt_5068e_1 : decode cJ0_charAt_5068e 1 = .ok (.invokevirtual 492, 3) := by decide +kernel
theorem dJ0_charAt_5068e_4 : decode cJ0_charAt_5068e 4 = .ok (.ifCond .eq 12, 3) := by decide +kernel
theorem dJ0_charAt_5068e_7 : decode cJ0_charAt_5068e 7 = .ok (.aload_n 0, 1) := by decide +kernel
theorem dJ0_charAt_5068e_8 : decode cJ0_charAt_5068e 8 = .ok (.getfield 9, 3) := by decide +kernel
theorem dJ0_charAt_5068e_11 : decode cJ0_charAt_5068e 11 = .ok (.iload_n 1, 1) := by decide +kernel
theorem dJ0_charAt_5068e_12 : decode cJ0_charAt_5068e 12 = .ok (.invokestatic 495, 3) := by decide +kernel
theorem dJ0_charAt_5068e_15 : decode cJ0_charAt_5068e 15 = .ok (.ireturn, 1) := by decide +kernel
theorem dJ0_charAt_5068e_16 : decode cJ0_charAt_5068e 16 = .ok (.aload_n 0, 1) := by decide +kernel
theorem dJ0_charAt_5068e_17 : decode cJ0_charAt_5068e 17 = .ok (.getfield 9, 3) := by decide +kernel
theorem dJ0_charAt_5068e_20 : decode cJ0_charAt_5068e 20 = .ok (.iload_n 1, 1) := by decide +kernel
theorem dJ0_charAt_5068e_21 : decode cJ0_charAt_5068e 21 = .ok (.invokestatic 498, 3) := by decide +kernel
theorem dJ0_charAt_5068e_24 : decode cJ0_charAt_5068e 24 = .ok (.ireturn, 1) := by decide +kernel
theorem dJ0_coder_7d493_0 : decode cJ0_coder_7d493 0 = .ok (.getstatic 38, 3) := by decide +kernel
theorem dJ0_coder_7d493_3 : decode cJ0_coder_7d493 3 = .ok (.ifCond .eq 10, 3) := by decide +kernel
theorem dJ0_coder_7d493_6 : decode cJ0_coder_7d493 6 = .ok (.aload_n 0, 1) := by decide +kernel
theorem dJ0_coder_7d493_7 : decode cJ0_coder_7d493 7 = .ok (.getfield 15, 3) := by decide +kernel
theorem dJ0_coder_7d493_10 : decode cJ0_coder_7d493 10 = .ok (.goto 4, 3) := by decide +kernel
theorem dJ0_coder_7d493_13 : decode cJ0_coder_7d493 13 = .ok (.iconst 1, 1) := by decide +kernel
theorem dJ0_coder_7d493_14 : decode cJ0_coder_7d493 14 = .ok (.ireturn, 1) := by decide +kernel
theorem dJ0_isLatin1_aae02_0 : decode cJ0_isLatin1_aae02 0 = .ok (.getstatic 38, 3) := by decide +kernel
theorem dJ0_isLatin1_aae02_3 : decode cJ0_isLatin1_aae02 3 = .ok (.ifCond .eq 14, 3) := by decide +kernel
theorem dJ0_isLatin1_aae02_6 : decode cJ0_isLatin1_aae02 6 = .ok (.aload_n 0, 1) := by decide +kernel
theorem dJ0_isLatin1_aae02_7 : decode cJ0_isLatin1_aae02 7 = .ok (.getfield 15, 3) := by decide +kernel
theorem dJ0_isLatin1_aae02_10 : decode cJ0_isLatin1_aae02 10 = .ok (.ifCond .ne 7, 3) := by decide +kernel
theorem dJ0_isLatin1_aae02_13 : decode cJ0_isLatin1_aae02 13 = .ok (.iconst 1, 1) := by decide +kernel
theorem dJ0_isLatin1_aae02_14 : decode cJ0_isLatin1_aae02 14 = .ok (.goto 4, 3) := by decide +kernel
theorem dJ0_isLatin1_aae02_17 : decode cJ0_isLatin1_aae02 17 = .ok (.iconst 0, 1) := by decide +kernel
theorem dJ0_isLatin1_aae02_18 : decode cJ0_isLatin1_aae02 18 = .ok (.ireturn, 1) := by decide +kernel
theorem dJ0_checkIndex_df160_0 : decode cJ0_checkIndex_df160 0 = .ok (.iload_n 0, 1) := by decide +kernel
theorem dJ0_checkIndex_df160_1 : decode cJ0_checkIndex_df160 1 = .ok (.iload_n 1, 1) := by decide +kernel
theorem dJ0_checkIndex_df160_2 : decode cJ0_checkIndex_df160 2 = .ok (.getstatic 1053, 3) := by decide +kernel
theorem dJ0_checkIndex_df160_5 : decode cJ0_checkIndex_df160 5 = .ok (.invokestatic 1059, 3) := by decide +kernel
theorem dJ0_checkIndex_df160_8 : decode cJ0_checkIndex_df160 8 = .ok (.pop, 1) := by decide +kernel
theorem dJ0_checkIndex_df160_9 : decode cJ0_checkIndex_df160 9 = .ok (.return_, 1) := by decide +kernel
theorem dJ1_charAt_3b067_0 : decode cJ1_charAt_3b067 0 = .ok (.iload_n 1, 1) := by decide +kernel
theorem dJ1_charAt_3b067_1 : decode cJ1_charAt_3b067 1 = .ok (.aload_n 0, 1) := by decide +kernel
theorem dJ1_charAt_3b067_2 : decode cJ1_charAt_3b067 2 = .ok (.arraylength, 1) := by decide +kernel
theorem dJ1_charAt_3b067_3 : decode cJ1_charAt_3b067 3 = .ok (.invokestatic 9, 3) := by decide +kernel
theorem dJ1_charAt_3b067_6 : decode cJ1_charAt_3b067 6 = .ok (.aload_n 0, 1) := by decide +kernel
theorem dJ1_charAt_3b067_7 : decode cJ1_charAt_3b067 7 = .ok (.iload_n 1, 1) := by decide +kernel
theorem dJ1_charAt_3b067_8 : decode cJ1_charAt_3b067 8 = .ok (.baload, 1) := by decide +kernel
theorem dJ1_charAt_3b067_9 : decode cJ1_charAt_3b067 9 = .ok (.sipush 255, 3) := by decide +kernel
theorem dJ1_charAt_3b067_12 : decode cJ1_charAt_3b067 12 = .ok (.iand, 1) := by decide +kernel
theorem dJ1_charAt_3b067_13 : decode cJ1_charAt_3b067 13 = .ok (.i2c, 1) := by decide +kernel
theorem dJ1_charAt_3b067_14 : decode cJ1_charAt_3b067 14 = .ok (.ireturn, 1) := by decide +kernel
theorem dJ2_getChar_3b067_0 : decode cJ2_getChar_3b067 0 = .ok (.getstatic 44, 3) := by decide +kernel
theorem dJ2_getChar_3b067_3 : decode cJ2_getChar_3b067 3 = .ok (.ifCond .ne 25, 3) := by decide +kernel
theorem dJ2_getChar_3b067_6 : decode cJ2_getChar_3b067 6 = .ok (.iload_n 1, 1) := by decide +kernel
theorem dJ2_getChar_3b067_7 : decode cJ2_getChar_3b067 7 = .ok (.ifCond .lt 11, 3) := by decide +kernel
theorem dJ2_getChar_3b067_10 : decode cJ2_getChar_3b067 10 = .ok (.iload_n 1, 1) := by decide +kernel
theorem dJ2_getChar_3b067_11 : decode cJ2_getChar_3b067 11 = .ok (.aload_n 0, 1) := by decide +kernel
theorem dJ2_getChar_3b067_12 : decode cJ2_getChar_3b067 12 = .ok (.invokestatic 48, 3) := by decide +kernel
theorem dJ2_getChar_3b067_15 : decode cJ2_getChar_3b067 15 = .ok (.if_icmp .lt 13, 3) := by decide +kernel
theorem dJ2_getChar_3b067_18 : decode cJ2_getChar_3b067 18 = .ok (.new 52, 3) := by decide +kernel
theorem dJ2_getChar_3b067_21 : decode cJ2_getChar_3b067 21 = .ok (.dup, 1) := by decide +kernel
theorem dJ2_getChar_3b067_22 : decode cJ2_getChar_3b067 22 = .ok (.ldc 54, 2) := by decide +kernel
theorem dJ2_getChar_3b067_24 : decode cJ2_getChar_3b067 24 = .ok (.invokespecial 56, 3) := by decide +kernel
theorem dJ2_getChar_3b067_27 : decode cJ2_getChar_3b067 27 = .ok (.athrow, 1) := by decide +kernel
theorem dJ2_getChar_3b067_28 : decode cJ2_getChar_3b067 28 = .ok (.iload_n 1, 1) := by decide +kernel
theorem dJ2_getChar_3b067_29 : decode cJ2_getChar_3b067 29 = .ok (.iconst 1, 1) := by decide +kernel
theorem dJ2_getChar_3b067_30 : decode cJ2_getChar_3b067 30 = .ok (.ishl, 1) := by decide +kernel
theorem dJ2_getChar_3b067_31 : decode cJ2_getChar_3b067 31 = .ok (.istore_n 1, 1) := by decide +kernel
theorem dJ2_getChar_3b067_32 : decode cJ2_getChar_3b067 32 = .ok (.aload_n 0, 1) := by decide +kernel
theorem dJ2_getChar_3b067_33 : decode cJ2_getChar_3b067 33 = .ok (.iload_n 1, 1) := by decide +kernel
theorem dJ2_getChar_3b067_34 : decode cJ2_getChar_3b067 34 = .ok (.iinc 1 1, 3) := by decide +kernel
theorem dJ2_getChar_3b067_37 : decode cJ2_getChar_3b067 37 = .ok (.baload, 1) := by decide +kernel
theorem dJ2_getChar_3b067_38 : decode cJ2_getChar_3b067 38 = .ok (.sipush 255, 3) := by decide +kernel
theorem dJ2_getChar_3b067_41 : decode cJ2_getChar_3b067 41 = .ok (.iand, 1) := by decide +kernel
theorem dJ2_getChar_3b067_42 : decode cJ2_getChar_3b067 42 = .ok (.getstatic 59, 3) := by decide +kernel
theorem dJ2_getChar_3b067_45 : decode cJ2_getChar_3b067 45 = .ok (.ishl, 1) := by decide +kernel
theorem dJ2_getChar_3b067_46 : decode cJ2_getChar_3b067 46 = .ok (.aload_n 0, 1) := by decide +kernel
theorem dJ2_getChar_3b067_47 : decode cJ2_getChar_3b067 47 = .ok (.iload_n 1, 1) := by decide +kernel
theorem dJ2_getChar_3b067_48 : decode cJ2_getChar_3b067 48 = .ok (.baload, 1) := by decide +kernel
theorem dJ2_getChar_3b067_49 : decode cJ2_getChar_3b067 49 = .ok (.sipush 255, 3) := by decide +kernel
theorem dJ2_getChar_3b067_52 : decode cJ2_getChar_3b067 52 = .ok (.iand, 1) := by decide +kernel
theorem dJ2_getChar_3b067_53 : decode cJ2_getChar_3b067 53 = .ok (.getstatic 63, 3) := by decide +kernel
theorem dJ2_getChar_3b067_56 : decode cJ2_getChar_3b067 56 = .ok (.ishl, 1) := by decide +kernel
theorem dJ2_getChar_3b067_57 : decode cJ2_getChar_3b067 57 = .ok (.ior, 1) := by decide +kernel
theorem dJ2_getChar_3b067_58 : decode cJ2_getChar_3b067 58 = .ok (.i2c, 1) := by decide +kernel
theorem dJ2_getChar_3b067_59 : decode cJ2_getChar_3b067 59 = .ok (.ireturn, 1) := by decide +kernel
theorem dJ2_length_9d52b_0 : decode cJ2_length_9d52b 0 = .ok (.aload_n 0, 1) := by decide +kernel
theorem dJ2_length_9d52b_1 : decode cJ2_length_9d52b 1 = .ok (.arraylength, 1) := by decide +kernel
theorem dJ2_length_9d52b_2 : decode cJ2_length_9d52b 2 = .ok (.iconst 1, 1) := by decide +kernel
theorem dJ2_length_9d52b_3 : decode cJ2_length_9d52b 3 = .ok (.ishr, 1) := by decide +kernel
theorem dJ2_length_9d52b_4 : decode cJ2_length_9d52b 4 = .ok (.ireturn, 1) := by decide +kernel
theorem dJ2_charAt_3b067_0 : decode cJ2_charAt_3b067 0 = .ok (.iload_n 1, 1) := by decide +kernel
theorem dJ2_charAt_3b067_1 : decode cJ2_charAt_3b067 1 = .ok (.aload_n 0, 1) := by decide +kernel
theorem dJ2_charAt_3b067_2 : decode cJ2_charAt_3b067 2 = .ok (.invokestatic 67, 3) := by decide +kernel
theorem dJ2_charAt_3b067_5 : decode cJ2_charAt_3b067 5 = .ok (.aload_n 0, 1) := by decide +kernel
theorem dJ2_charAt_3b067_6 : decode cJ2_charAt_3b067 6 = .ok (.iload_n 1, 1) := by decide +kernel
theorem dJ2_charAt_3b067_7 : decode cJ2_charAt_3b067 7 = .ok (.invokestatic 71, 3) := by decide +kernel
theorem dJ2_charAt_3b067_10 : decode cJ2_charAt_3b067 10 = .ok (.ireturn, 1) := by decide +kernel
theorem dJ2_checkIndex_2214a_0 : decode cJ2_checkIndex_2214a 0 = .ok (.iload_n 0, 1) := by decide +kernel
theorem dJ2_checkIndex_2214a_1 : decode cJ2_checkIndex_2214a 1 = .ok (.aload_n 1, 1) := by decide +kernel
theorem dJ2_checkIndex_2214a_2 : decode cJ2_checkIndex_2214a 2 = .ok (.invokestatic 48, 3) := by decide +kernel
theorem dJ2_checkIndex_2214a_5 : decode cJ2_checkIndex_2214a 5 = .ok (.invokestatic 414, 3) := by decide +kernel
theorem dJ2_checkIndex_2214a_8 : decode cJ2_checkIndex_2214a 8 = .ok (.return_, 1) := by decide +kernel
theorem dJ3_checkIndex_8e157_0 : decode cJ3_checkIndex_8e157 0 = .ok (.iload_n 0, 1) := by decide +kernel
theorem dJ3_checkIndex_8e157_1 : decode cJ3_checkIndex_8e157 1 = .ok (.ifCond .lt 8, 3) := by decide +kernel
theorem dJ3_checkIndex_8e157_4 : decode cJ3_checkIndex_8e157 4 = .ok (.iload_n 0, 1) := by decide +kernel
theorem dJ3_checkIndex_8e157_5 : decode cJ3_checkIndex_8e157 5 = .ok (.iload_n 1, 1) := by decide +kernel
theorem dJ3_checkIndex_8e157_6 : decode cJ3_checkIndex_8e157 6 = .ok (.if_icmp .lt 10, 3) := by decide +kernel
theorem dJ3_checkIndex_8e157_9 : decode cJ3_checkIndex_8e157 9 = .ok (.aload_n 2, 1) := by decide +kernel
theorem dJ3_checkIndex_8e157_10 : decode cJ3_checkIndex_8e157 10 = .ok (.iload_n 0, 1) := by decide +kernel
theorem dJ3_checkIndex_8e157_11 : decode cJ3_checkIndex_8e157 11 = .ok (.iload_n 1, 1) := by decide +kernel
theorem dJ3_checkIndex_8e157_12 : decode cJ3_checkIndex_8e157 12 = .ok (.invokestatic 95, 3) := by decide +kernel
theorem dJ3_checkIndex_8e157_15 : decode cJ3_checkIndex_8e157 15 = .ok (.athrow, 1) := by decide +kernel
theorem dJ3_checkIndex_8e157_16 : decode cJ3_checkIndex_8e157 16 = .ok (.iload_n 0, 1) := by decide +kernel
theorem dJ3_checkIndex_8e157_17 : decode cJ3_checkIndex_8e157 17 = .ok (.ireturn, 1) := by decide +kernel
end
section
def mX0_init : oM := (yX0_init, cX0_init, 1, none, 1, 20)
set_option maxRecDepth 100000 in
theorem kc_X0_init : oMc mX0_init := ⟨(oWL_t (n := 103) rfl rfl), (oWL_t (n := 4) rfl rfl), by decide, by decide⟩
set_option maxRecDepth 100000 in
theorem ki_X0_init : oMi mX0_init := ⟨kc_X0_init, (oWL_t (n := 102) rfl rfl)⟩
theorem kn_X0_init : oN mX0_init 0 := (by decide +kernel : (parseMethodDescriptor (yX0_init).desc).map (fun d => d.parameters.length) = some 0)
def mX0_emptyTrace : oM := (yX0_emptyTrace, cX0_emptyTrace, 1, none, 0, 0)
set_option maxRecDepth 100000 in
theorem kc_X0_emptyTrace : oMc mX0_emptyTrace := ⟨(oWL_t (n := 612) rfl rfl), (oWL_t (n := 4) rfl rfl), by decide, by decide⟩
set_option maxRecDepth 100000 in
theorem ki_X0_emptyTrace : oMi mX0_emptyTrace := ⟨kc_X0_emptyTrace, (oWL_t (n := 610) rfl rfl)⟩
set_option maxRecDepth 100000 in
theorem kv_X0_emptyTrace : oMv mX0_emptyTrace := ⟨ki_X0_emptyTrace, (oWL_t (n := 611) rfl rfl)⟩
theorem kn_X0_emptyTrace : oN mX0_emptyTrace 0 := (by decide +kernel : (parseMethodDescriptor (yX0_emptyTrace).desc).map (fun d => d.parameters.length) = some 0)
def mX0_traced : oM := (yX0_traced, cX0_traced, 2, some .int, 0, 0)
set_option maxRecDepth 100000 in
theorem kc_X0_traced : oMc mX0_traced := ⟨(oWL_t (n := 662) rfl rfl), (oWL_t (n := 4) rfl rfl), by decide, by decide⟩
set_option maxRecDepth 100000 in
theorem ki_X0_traced : oMi mX0_traced := ⟨kc_X0_traced, (oWL_t (n := 660) rfl rfl)⟩
set_option maxRecDepth 100000 in
theorem kv_X0_traced : oMv mX0_traced := ⟨ki_X0_traced, (oWL_t (n := 661) rfl rfl)⟩
theorem kn_X0_traced : oN mX0_traced 1 := (by decide +kernel : (parseMethodDescriptor (yX0_traced).desc).map (fun d => d.parameters.length) = some 1)
def mX0_weight : oM := (yX0_weight, cX0_weight, 2, some .int, 4, 84)
set_option maxRecDepth 100000 in
theorem kc_X0_weight : oMc mX0_weight := ⟨(oWL_t (n := 616) rfl rfl), (oWL_t (n := 4) rfl rfl), by decide, by decide⟩
set_option maxRecDepth 100000 in
theorem ki_X0_weight : oMi mX0_weight := ⟨kc_X0_weight, (oWL_t (n := 614) rfl rfl)⟩
set_option maxRecDepth 100000 in
theorem kv_X0_weight : oMv mX0_weight := ⟨ki_X0_weight, (oWL_t (n := 615) rfl rfl)⟩
theorem kn_X0_weight : oN mX0_weight 1 := (by decide +kernel : (parseMethodDescriptor (yX0_weight).desc).map (fun d => d.parameters.length) = some 1)
def mX0_mark : oM := (yX0_mark, cX0_mark, 2, some .int, 6, 126)
set_option maxRecDepth 100000 in
theorem kc_X0_mark : oMc mX0_mark := ⟨(oWL_t (n := 641) rfl rfl), (oWL_t (n := 4) rfl rfl), by decide, by decide⟩
set_option maxRecDepth 100000 in
theorem ki_X0_mark : oMi mX0_mark := ⟨kc_X0_mark, (oWL_t (n := 639) rfl rfl)⟩
set_option maxRecDepth 100000 in
theorem kv_X0_mark : oMv mX0_mark := ⟨ki_X0_mark, (oWL_t (n := 640) rfl rfl)⟩
theorem kn_X0_mark : oN mX0_mark 1 := (by decide +kernel : (parseMethodDescriptor (yX0_mark).desc).map (fun d => d.parameters.length) = some 1)
def mX0_lentWeight : oM := (yX0_lentWeight, cX0_lentWeight, 2, some .int, 1, 21)
set_option maxRecDepth 100000 in
theorem kc_X0_lentWeight : oMc mX0_lentWeight := ⟨(oWL_t (n := 629) rfl rfl), (oWL_t (n := 4) rfl rfl), by decide, by decide⟩
set_option maxRecDepth 100000 in
theorem ki_X0_lentWeight : oMi mX0_lentWeight := ⟨kc_X0_lentWeight, (oWL_t (n := 628) rfl rfl)⟩
set_option maxRecDepth 100000 in
theorem kv_X0_lentWeight : oMv mX0_lentWeight := ⟨ki_X0_lentWeight, (oWL_p (n := 31) rfl rfl)⟩
theorem kn_X0_lentWeight : oN mX0_lentWeight 1 := (by decide +kernel : (parseMethodDescriptor (yX0_lentWeight).desc).map (fun d => d.parameters.length) = some 1)
def mX0_knownWeight : oM := (yX0_knownWeight, cX0_knownWeight, 2, some .int, 2, 42)
set_option maxRecDepth 100000 in
theorem kc_X0_knownWeight : oMc mX0_knownWeight := ⟨(oWL_t (n := 637) rfl rfl), (oWL_t (n := 4) rfl rfl), by decide, by decide⟩
set_option maxRecDepth 100000 in
theorem ki_X0_knownWeight : oMi mX0_knownWeight := ⟨kc_X0_knownWeight, (oWL_t (n := 636) rfl rfl)⟩
set_option maxRecDepth 100000 in
theorem kv_X0_knownWeight : oMv mX0_knownWeight := ⟨ki_X0_knownWeight, (oWL_p (n := 33) rfl rfl)⟩
theorem kn_X0_knownWeight : oN mX0_knownWeight 1 := (by decide +kernel : (parseMethodDescriptor (yX0_knownWeight).desc).map (fun d => d.parameters.length) = some 1)
def mX0_steadyWeight : oM := (yX0_steadyWeight, cX0_steadyWeight, 2, some .int, 3, 63)
set_option maxRecDepth 100000 in
theorem kc_X0_steadyWeight : oMc mX0_steadyWeight := ⟨(oWL_t (n := 633) rfl rfl), (oWL_t (n := 4) rfl rfl), by decide, by decide⟩
set_option maxRecDepth 100000 in
theorem ki_X0_steadyWeight : oMi mX0_steadyWeight := ⟨kc_X0_steadyWeight, (oWL_t (n := 632) rfl rfl)⟩
set_option maxRecDepth 100000 in
theorem kv_X0_steadyWeight : oMv mX0_steadyWeight := ⟨ki_X0_steadyWeight, (oWL_p (n := 32) rfl rfl)⟩
theorem kn_X0_steadyWeight : oN mX0_steadyWeight 1 := (by decide +kernel : (parseMethodDescriptor (yX0_steadyWeight).desc).map (fun d => d.parameters.length) = some 1)
def mX0_leakyWeight : oM := (yX0_leakyWeight, cX0_leakyWeight, 2, some .int, 2, 42)
set_option maxRecDepth 100000 in
theorem kc_X0_leakyWeight : oMc mX0_leakyWeight := ⟨(oWL_t (n := 621) rfl rfl), (oWL_t (n := 4) rfl rfl), by decide, by decide⟩
set_option maxRecDepth 100000 in
theorem ki_X0_leakyWeight : oMi mX0_leakyWeight := ⟨kc_X0_leakyWeight, (oWL_t (n := 620) rfl rfl)⟩
set_option maxRecDepth 100000 in
theorem kv_X0_leakyWeight : oMv mX0_leakyWeight := ⟨ki_X0_leakyWeight, (oWL_p (n := 29) rfl rfl)⟩
theorem kn_X0_leakyWeight : oN mX0_leakyWeight 1 := (by decide +kernel : (parseMethodDescriptor (yX0_leakyWeight).desc).map (fun d => d.parameters.length) = some 1)
def mX0_lentMark : oM := (yX0_lentMark, cX0_lentMark, 2, some .int, 1, 21)
set_option maxRecDepth 100000 in
theorem kc_X0_lentMark : oMc mX0_lentMark := ⟨(oWL_t (n := 649) rfl rfl), (oWL_t (n := 4) rfl rfl), by decide, by decide⟩
set_option maxRecDepth 100000 in
theorem ki_X0_lentMark : oMi mX0_lentMark := ⟨kc_X0_lentMark, (oWL_t (n := 648) rfl rfl)⟩
set_option maxRecDepth 100000 in
theorem kv_X0_lentMark : oMv mX0_lentMark := ⟨ki_X0_lentMark, (oWL_p (n := 35) rfl rfl)⟩
theorem kn_X0_lentMark : oN mX0_lentMark 1 := (by decide +kernel : (parseMethodDescriptor (yX0_lentMark).desc).map (fun d => d.parameters.length) = some 1)
def mX0_knownMark : oM := (yX0_knownMark, cX0_knownMark, 2, some .int, 5, 105)
set_option maxRecDepth 100000 in
theorem kc_X0_knownMark : oMc mX0_knownMark := ⟨(oWL_t (n := 654) rfl rfl), (oWL_t (n := 4) rfl rfl), by decide, by decide⟩
set_option maxRecDepth 100000 in
theorem ki_X0_knownMark : oMi mX0_knownMark := ⟨kc_X0_knownMark, (oWL_t (n := 653) rfl rfl)⟩
set_option maxRecDepth 100000 in
theorem kv_X0_knownMark : oMv mX0_knownMark := ⟨ki_X0_knownMark, (oWL_p (n := 36) rfl rfl)⟩
theorem kn_X0_knownMark : oN mX0_knownMark 1 := (by decide +kernel : (parseMethodDescriptor (yX0_knownMark).desc).map (fun d => d.parameters.length) = some 1)
def mX0_leakyMark : oM := (yX0_leakyMark, cX0_leakyMark, 2, some .int, 5, 105)
set_option maxRecDepth 100000 in
theorem kc_X0_leakyMark : oMc mX0_leakyMark := ⟨(oWL_t (n := 645) rfl rfl), (oWL_t (n := 4) rfl rfl), by decide, by decide⟩
set_option maxRecDepth 100000 in
theorem ki_X0_leakyMark : oMi mX0_leakyMark := ⟨kc_X0_leakyMark, (oWL_t (n := 644) rfl rfl)⟩
set_option maxRecDepth 100000 in
theorem kv_X0_leakyMark : oMv mX0_leakyMark := ⟨ki_X0_leakyMark, (oWL_p (n := 34) rfl rfl)⟩
theorem kn_X0_leakyMark : oN mX0_leakyMark 1 := (by decide +kernel : (parseMethodDescriptor (yX0_leakyMark).desc).map (fun d => d.parameters.length) = some 1)
def mX0_begin : oM := (yX0_begin, cX0_begin, 2, none, 0, 0)
set_option maxRecDepth 100000 in
theorem kc_X0_begin : oMc mX0_begin := ⟨(oWL_t (n := 625) rfl rfl), (oWL_t (n := 4) rfl rfl), by decide, by decide⟩
set_option maxRecDepth 100000 in
theorem ki_X0_begin : oMi mX0_begin := ⟨kc_X0_begin, (oWL_t (n := 624) rfl rfl)⟩
set_option maxRecDepth 100000 in
theorem kv_X0_begin : oMv mX0_begin := ⟨ki_X0_begin, (oWL_p (n := 30) rfl rfl)⟩
theorem kn_X0_begin : oN mX0_begin 1 := (by decide +kernel : (parseMethodDescriptor (yX0_begin).desc).map (fun d => d.parameters.length) = some 1)
def mX1_init : oM := (yX1_init, cX1_init, 4, none, 2, 40)
set_option maxRecDepth 100000 in
theorem kc_X1_init : oMc mX1_init := ⟨(oWL_t (n := 167) rfl rfl), (oWL_t (n := 6) rfl rfl), by decide, by decide⟩
set_option maxRecDepth 100000 in
theorem ki_X1_init : oMi mX1_init := ⟨kc_X1_init, (oWL_t (n := 166) rfl rfl)⟩
theorem kn_X1_init : oN mX1_init 3 := (by decide +kernel : (parseMethodDescriptor (yX1_init).desc).map (fun d => d.parameters.length) = some 3)
def mX1_low : oM := (yX1_low, cX1_low, 2, some .int, 0, 0)
set_option maxRecDepth 100000 in
theorem kc_X1_low : oMc mX1_low := ⟨(oWL_t (n := 274) rfl rfl), (oWL_t (n := 6) rfl rfl), by decide, by decide⟩
set_option maxRecDepth 100000 in
theorem ki_X1_low : oMi mX1_low := ⟨kc_X1_low, (oWL_t (n := 273) rfl rfl)⟩
set_option maxRecDepth 100000 in
theorem kv_X1_low : oMv mX1_low := ⟨ki_X1_low, (oWL_p (n := 1) rfl rfl)⟩
theorem kn_X1_low : oN mX1_low 1 := (by decide +kernel : (parseMethodDescriptor (yX1_low).desc).map (fun d => d.parameters.length) = some 1)
def mX1_high : oM := (yX1_high, cX1_high, 2, some .int, 0, 0)
set_option maxRecDepth 100000 in
theorem kc_X1_high : oMc mX1_high := ⟨(oWL_t (n := 281) rfl rfl), (oWL_t (n := 6) rfl rfl), by decide, by decide⟩
set_option maxRecDepth 100000 in
theorem ki_X1_high : oMi mX1_high := ⟨kc_X1_high, (oWL_t (n := 280) rfl rfl)⟩
set_option maxRecDepth 100000 in
theorem kv_X1_high : oMv mX1_high := ⟨ki_X1_high, (oWL_p (n := 2) rfl rfl)⟩
theorem kn_X1_high : oN mX1_high 1 := (by decide +kernel : (parseMethodDescriptor (yX1_high).desc).map (fun d => d.parameters.length) = some 1)
def mX1_endDay : oM := (yX1_endDay, cX1_endDay, 2, none, 1, 21)
set_option maxRecDepth 100000 in
theorem kc_X1_endDay : oMc mX1_endDay := ⟨(oWL_t (n := 270) rfl rfl), (oWL_t (n := 6) rfl rfl), by decide, by decide⟩
set_option maxRecDepth 100000 in
theorem ki_X1_endDay : oMi mX1_endDay := ⟨kc_X1_endDay, (oWL_t (n := 268) rfl rfl)⟩
set_option maxRecDepth 100000 in
theorem kv_X1_endDay : oMv mX1_endDay := ⟨ki_X1_endDay, (oWL_t (n := 269) rfl rfl)⟩
theorem kn_X1_endDay : oN mX1_endDay 1 := (by decide +kernel : (parseMethodDescriptor (yX1_endDay).desc).map (fun d => d.parameters.length) = some 1)
def mX1_isSafe : oM := (yX1_isSafe, cX1_isSafe, 1, some .boolean, 0, 0)
set_option maxRecDepth 100000 in
theorem kc_X1_isSafe : oMc mX1_isSafe := ⟨(oWL_t (n := 285) rfl rfl), (oWL_t (n := 6) rfl rfl), by decide, by decide⟩
set_option maxRecDepth 100000 in
theorem ki_X1_isSafe : oMi mX1_isSafe := ⟨kc_X1_isSafe, (oWL_t (n := 283) rfl rfl)⟩
set_option maxRecDepth 100000 in
theorem kv_X1_isSafe : oMv mX1_isSafe := ⟨ki_X1_isSafe, (oWL_t (n := 284) rfl rfl)⟩
theorem kn_X1_isSafe : oN mX1_isSafe 0 := (by decide +kernel : (parseMethodDescriptor (yX1_isSafe).desc).map (fun d => d.parameters.length) = some 0)
def mX1_isDue : oM := (yX1_isDue, cX1_isDue, 3, some .boolean, 1, 21)
set_option maxRecDepth 100000 in
theorem kc_X1_isDue : oMc mX1_isDue := ⟨(oWL_t (n := 297) rfl rfl), (oWL_t (n := 6) rfl rfl), by decide, by decide⟩
set_option maxRecDepth 100000 in
theorem ki_X1_isDue : oMi mX1_isDue := ⟨kc_X1_isDue, (oWL_t (n := 295) rfl rfl)⟩
set_option maxRecDepth 100000 in
theorem kv_X1_isDue : oMv mX1_isDue := ⟨ki_X1_isDue, (oWL_t (n := 296) rfl rfl)⟩
theorem kn_X1_isDue : oN mX1_isDue 2 := (by decide +kernel : (parseMethodDescriptor (yX1_isDue).desc).map (fun d => d.parameters.length) = some 2)
def mX1_daysToGo : oM := (yX1_daysToGo, cX1_daysToGo, 3, some .int, 1, 21)
set_option maxRecDepth 100000 in
theorem kc_X1_daysToGo : oMc mX1_daysToGo := ⟨(oWL_t (n := 340) rfl rfl), (oWL_t (n := 6) rfl rfl), by decide, by decide⟩
set_option maxRecDepth 100000 in
theorem ki_X1_daysToGo : oMi mX1_daysToGo := ⟨kc_X1_daysToGo, (oWL_t (n := 338) rfl rfl)⟩
set_option maxRecDepth 100000 in
theorem kv_X1_daysToGo : oMv mX1_daysToGo := ⟨ki_X1_daysToGo, (oWL_t (n := 339) rfl rfl)⟩
theorem kn_X1_daysToGo : oN mX1_daysToGo 1 := (by decide +kernel : (parseMethodDescriptor (yX1_daysToGo).desc).map (fun d => d.parameters.length) = some 1)
def mX1_daysAboveZero : oM := (yX1_daysAboveZero, cX1_daysAboveZero, 3, some .int, 1, 21)
set_option maxRecDepth 100000 in
theorem kc_X1_daysAboveZero : oMc mX1_daysAboveZero := ⟨(oWL_t (n := 309) rfl rfl), (oWL_t (n := 6) rfl rfl), by decide, by decide⟩
set_option maxRecDepth 100000 in
theorem ki_X1_daysAboveZero : oMi mX1_daysAboveZero := ⟨kc_X1_daysAboveZero, (oWL_t (n := 307) rfl rfl)⟩
set_option maxRecDepth 100000 in
theorem kv_X1_daysAboveZero : oMv mX1_daysAboveZero := ⟨ki_X1_daysAboveZero, (oWL_t (n := 308) rfl rfl)⟩
theorem kn_X1_daysAboveZero : oN mX1_daysAboveZero 1 := (by decide +kernel : (parseMethodDescriptor (yX1_daysAboveZero).desc).map (fun d => d.parameters.length) = some 1)
def mX1_mayNeed : oM := (yX1_mayNeed, cX1_mayNeed, 1, some .int, 0, 0)
set_option maxRecDepth 100000 in
theorem kc_X1_mayNeed : oMc mX1_mayNeed := ⟨(oWL_t (n := 344) rfl rfl), (oWL_t (n := 6) rfl rfl), by decide, by decide⟩
set_option maxRecDepth 100000 in
theorem ki_X1_mayNeed : oMi mX1_mayNeed := ⟨kc_X1_mayNeed, (oWL_t (n := 342) rfl rfl)⟩
set_option maxRecDepth 100000 in
theorem kv_X1_mayNeed : oMv mX1_mayNeed := ⟨ki_X1_mayNeed, (oWL_t (n := 343) rfl rfl)⟩
theorem kn_X1_mayNeed : oN mX1_mayNeed 0 := (by decide +kernel : (parseMethodDescriptor (yX1_mayNeed).desc).map (fun d => d.parameters.length) = some 0)
def mX1_takeFill : oM := (yX1_takeFill, cX1_takeFill, 2, none, 3, 64)
set_option maxRecDepth 100000 in
theorem kc_X1_takeFill : oMc mX1_takeFill := ⟨(oWL_t (n := 429) rfl rfl), (oWL_t (n := 6) rfl rfl), by decide, by decide⟩
set_option maxRecDepth 100000 in
theorem ki_X1_takeFill : oMi mX1_takeFill := ⟨kc_X1_takeFill, (oWL_t (n := 427) rfl rfl)⟩
set_option maxRecDepth 100000 in
theorem kv_X1_takeFill : oMv mX1_takeFill := ⟨ki_X1_takeFill, (oWL_t (n := 428) rfl rfl)⟩
theorem kn_X1_takeFill : oN mX1_takeFill 1 := (by decide +kernel : (parseMethodDescriptor (yX1_takeFill).desc).map (fun d => d.parameters.length) = some 1)
def mX1_noteOf : oM := (yX1_noteOf, cX1_noteOf, 2, some .int, 0, 0)
set_option maxRecDepth 100000 in
theorem kc_X1_noteOf : oMc mX1_noteOf := ⟨(oWL_t (n := 433) rfl rfl), (oWL_t (n := 6) rfl rfl), by decide, by decide⟩
set_option maxRecDepth 100000 in
theorem ki_X1_noteOf : oMi mX1_noteOf := ⟨kc_X1_noteOf, (oWL_t (n := 432) rfl rfl)⟩
set_option maxRecDepth 100000 in
theorem kv_X1_noteOf : oMv mX1_noteOf := ⟨ki_X1_noteOf, (oWL_p (n := 15) rfl rfl)⟩
theorem kn_X1_noteOf : oN mX1_noteOf 1 := (by decide +kernel : (parseMethodDescriptor (yX1_noteOf).desc).map (fun d => d.parameters.length) = some 1)
def mX1_narrow : oM := (yX1_narrow, cX1_narrow, 2, none, 2, 43)
set_option maxRecDepth 100000 in
theorem kc_X1_narrow : oMc mX1_narrow := ⟨(oWL_t (n := 437) rfl rfl), (oWL_t (n := 6) rfl rfl), by decide, by decide⟩
set_option maxRecDepth 100000 in
theorem ki_X1_narrow : oMi mX1_narrow := ⟨kc_X1_narrow, (oWL_t (n := 436) rfl rfl)⟩
set_option maxRecDepth 100000 in
theorem kv_X1_narrow : oMv mX1_narrow := ⟨ki_X1_narrow, (oWL_p (n := 16) rfl rfl)⟩
theorem kn_X1_narrow : oN mX1_narrow 1 := (by decide +kernel : (parseMethodDescriptor (yX1_narrow).desc).map (fun d => d.parameters.length) = some 1)
def mX1_cut : oM := (yX1_cut, cX1_cut, 2, some .int, 0, 0)
set_option maxRecDepth 100000 in
theorem kc_X1_cut : oMc mX1_cut := ⟨(oWL_t (n := 440) rfl rfl), (oWL_t (n := 6) rfl rfl), by decide, by decide⟩
set_option maxRecDepth 100000 in
theorem ks_X1_cut : oMs mX1_cut := ⟨kc_X1_cut, (oWL_t (n := 439) rfl rfl)⟩
theorem kn_X1_cut : oN mX1_cut 2 := (by decide +kernel : (parseMethodDescriptor (yX1_cut).desc).map (fun d => d.parameters.length) = some 2)
def mX1_roundedUp : oM := (yX1_roundedUp, cX1_roundedUp, 2, some .int, 1, 22)
set_option maxRecDepth 100000 in
theorem kc_X1_roundedUp : oMc mX1_roundedUp := ⟨(oWL_t (n := 443) rfl rfl), (oWL_t (n := 6) rfl rfl), by decide, by decide⟩
set_option maxRecDepth 100000 in
theorem ks_X1_roundedUp : oMs mX1_roundedUp := ⟨kc_X1_roundedUp, (oWL_t (n := 442) rfl rfl)⟩
theorem kn_X1_roundedUp : oN mX1_roundedUp 2 := (by decide +kernel : (parseMethodDescriptor (yX1_roundedUp).desc).map (fun d => d.parameters.length) = some 2)
def mX1_isOf : oM := (yX1_isOf, cX1_isOf, 2, some .boolean, 2, 40)
set_option maxRecDepth 100000 in
theorem kc_X1_isOf : oMc mX1_isOf := ⟨(oWL_t (n := 603) rfl rfl), (oWL_t (n := 6) rfl rfl), by decide, by decide⟩
set_option maxRecDepth 100000 in
theorem ki_X1_isOf : oMi mX1_isOf := ⟨kc_X1_isOf, (oWL_t (n := 601) rfl rfl)⟩
set_option maxRecDepth 100000 in
theorem kv_X1_isOf : oMv mX1_isOf := ⟨ki_X1_isOf, (oWL_t (n := 602) rfl rfl)⟩
theorem kn_X1_isOf : oN mX1_isOf 1 := (by decide +kernel : (parseMethodDescriptor (yX1_isOf).desc).map (fun d => d.parameters.length) = some 1)
def mX1_toldKind : oM := (yX1_toldKind, cX1_toldKind, 1, some .int, 2, 40)
set_option maxRecDepth 100000 in
theorem kc_X1_toldKind : oMc mX1_toldKind := ⟨(oWL_t (n := 583) rfl rfl), (oWL_t (n := 6) rfl rfl), by decide, by decide⟩
set_option maxRecDepth 100000 in
theorem ki_X1_toldKind : oMi mX1_toldKind := ⟨kc_X1_toldKind, (oWL_t (n := 581) rfl rfl)⟩
set_option maxRecDepth 100000 in
theorem kv_X1_toldKind : oMv mX1_toldKind := ⟨ki_X1_toldKind, (oWL_t (n := 582) rfl rfl)⟩
theorem kn_X1_toldKind : oN mX1_toldKind 0 := (by decide +kernel : (parseMethodDescriptor (yX1_toldKind).desc).map (fun d => d.parameters.length) = some 0)
def mX1_isLeaky : oM := (yX1_isLeaky, cX1_isLeaky, 1, some .boolean, 0, 0)
set_option maxRecDepth 100000 in
theorem kc_X1_isLeaky : oMc mX1_isLeaky := ⟨(oWL_t (n := 587) rfl rfl), (oWL_t (n := 6) rfl rfl), by decide, by decide⟩
set_option maxRecDepth 100000 in
theorem ki_X1_isLeaky : oMi mX1_isLeaky := ⟨kc_X1_isLeaky, (oWL_t (n := 586) rfl rfl)⟩
set_option maxRecDepth 100000 in
theorem kv_X1_isLeaky : oMv mX1_isLeaky := ⟨ki_X1_isLeaky, (oWL_p (n := 26) rfl rfl)⟩
theorem kn_X1_isLeaky : oN mX1_isLeaky 0 := (by decide +kernel : (parseMethodDescriptor (yX1_isLeaky).desc).map (fun d => d.parameters.length) = some 0)
def mX1_isSteady : oM := (yX1_isSteady, cX1_isSteady, 1, some .boolean, 1, 20)
set_option maxRecDepth 100000 in
theorem kc_X1_isSteady : oMc mX1_isSteady := ⟨(oWL_t (n := 591) rfl rfl), (oWL_t (n := 6) rfl rfl), by decide, by decide⟩
set_option maxRecDepth 100000 in
theorem ki_X1_isSteady : oMi mX1_isSteady := ⟨kc_X1_isSteady, (oWL_t (n := 590) rfl rfl)⟩
set_option maxRecDepth 100000 in
theorem kv_X1_isSteady : oMv mX1_isSteady := ⟨ki_X1_isSteady, (oWL_p (n := 27) rfl rfl)⟩
theorem kn_X1_isSteady : oN mX1_isSteady 0 := (by decide +kernel : (parseMethodDescriptor (yX1_isSteady).desc).map (fun d => d.parameters.length) = some 0)
def mX1_isKnown : oM := (yX1_isKnown, cX1_isKnown, 1, some .boolean, 0, 0)
set_option maxRecDepth 100000 in
theorem kc_X1_isKnown : oMc mX1_isKnown := ⟨(oWL_t (n := 595) rfl rfl), (oWL_t (n := 6) rfl rfl), by decide, by decide⟩
set_option maxRecDepth 100000 in
theorem ki_X1_isKnown : oMi mX1_isKnown := ⟨kc_X1_isKnown, (oWL_t (n := 594) rfl rfl)⟩
set_option maxRecDepth 100000 in
theorem kv_X1_isKnown : oMv mX1_isKnown := ⟨ki_X1_isKnown, (oWL_p (n := 28) rfl rfl)⟩
theorem kn_X1_isKnown : oN mX1_isKnown 0 := (by decide +kernel : (parseMethodDescriptor (yX1_isKnown).desc).map (fun d => d.parameters.length) = some 0)
def mX2_init : oM := (yX2_init, cX2_init, 1, none, 1, 20)
set_option maxRecDepth 100000 in
theorem kc_X2_init : oMc mX2_init := ⟨(oWL_t (n := 173) rfl rfl), (oWL_t (n := 7) rfl rfl), by decide, by decide⟩
set_option maxRecDepth 100000 in
theorem ki_X2_init : oMi mX2_init := ⟨kc_X2_init, (oWL_t (n := 172) rfl rfl)⟩
theorem kn_X2_init : oN mX2_init 0 := (by decide +kernel : (parseMethodDescriptor (yX2_init).desc).map (fun d => d.parameters.length) = some 0)
def mX2_become : oM := (yX2_become, cX2_become, 4, none, 0, 0)
set_option maxRecDepth 100000 in
theorem kc_X2_become : oMc mX2_become := ⟨(oWL_t (n := 567) rfl rfl), (oWL_t (n := 7) rfl rfl), by decide, by decide⟩
set_option maxRecDepth 100000 in
theorem ki_X2_become : oMi mX2_become := ⟨kc_X2_become, (oWL_t (n := 565) rfl rfl)⟩
set_option maxRecDepth 100000 in
theorem kv_X2_become : oMv mX2_become := ⟨ki_X2_become, (oWL_t (n := 566) rfl rfl)⟩
theorem kn_X2_become : oN mX2_become 3 := (by decide +kernel : (parseMethodDescriptor (yX2_become).desc).map (fun d => d.parameters.length) = some 3)
def mX2_costOf : oM := (yX2_costOf, cX2_costOf, 3, some .int, 2, 42)
set_option maxRecDepth 100000 in
theorem kc_X2_costOf : oMc mX2_costOf := ⟨(oWL_t (n := 416) rfl rfl), (oWL_t (n := 7) rfl rfl), by decide, by decide⟩
set_option maxRecDepth 100000 in
theorem ki_X2_costOf : oMi mX2_costOf := ⟨kc_X2_costOf, (oWL_t (n := 414) rfl rfl)⟩
set_option maxRecDepth 100000 in
theorem kv_X2_costOf : oMv mX2_costOf := ⟨ki_X2_costOf, (oWL_t (n := 415) rfl rfl)⟩
theorem kn_X2_costOf : oN mX2_costOf 2 := (by decide +kernel : (parseMethodDescriptor (yX2_costOf).desc).map (fun d => d.parameters.length) = some 2)
def mX2_useUp : oM := (yX2_useUp, cX2_useUp, 2, none, 2, 42)
set_option maxRecDepth 100000 in
theorem kc_X2_useUp : oMc mX2_useUp := ⟨(oWL_t (n := 425) rfl rfl), (oWL_t (n := 7) rfl rfl), by decide, by decide⟩
set_option maxRecDepth 100000 in
theorem ki_X2_useUp : oMi mX2_useUp := ⟨kc_X2_useUp, (oWL_t (n := 423) rfl rfl)⟩
set_option maxRecDepth 100000 in
theorem kv_X2_useUp : oMv mX2_useUp := ⟨ki_X2_useUp, (oWL_t (n := 424) rfl rfl)⟩
theorem kn_X2_useUp : oN mX2_useUp 1 := (by decide +kernel : (parseMethodDescriptor (yX2_useUp).desc).map (fun d => d.parameters.length) = some 1)
def mX2_ahead : oM := (yX2_ahead, cX2_ahead, 2, some .int, 1, 21)
set_option maxRecDepth 100000 in
theorem kc_X2_ahead : oMc mX2_ahead := ⟨(oWL_t (n := 421) rfl rfl), (oWL_t (n := 7) rfl rfl), by decide, by decide⟩
set_option maxRecDepth 100000 in
theorem ki_X2_ahead : oMi mX2_ahead := ⟨kc_X2_ahead, (oWL_t (n := 420) rfl rfl)⟩
set_option maxRecDepth 100000 in
theorem kv_X2_ahead : oMv mX2_ahead := ⟨ki_X2_ahead, (oWL_p (n := 14) rfl rfl)⟩
theorem kn_X2_ahead : oN mX2_ahead 1 := (by decide +kernel : (parseMethodDescriptor (yX2_ahead).desc).map (fun d => d.parameters.length) = some 1)
def mX3_init : oM := (yX3_init, cX3_init, 1, none, 1, 20)
set_option maxRecDepth 100000 in
theorem kc_X3_init : oMc mX3_init := ⟨(oWL_t (n := 57) rfl rfl), (oWL_t (n := 3) rfl rfl), by decide, by decide⟩
set_option maxRecDepth 100000 in
theorem ki_X3_init : oMi mX3_init := ⟨kc_X3_init, (oWL_t (n := 56) rfl rfl)⟩
theorem kn_X3_init : oN mX3_init 0 := (by decide +kernel : (parseMethodDescriptor (yX3_init).desc).map (fun d => d.parameters.length) = some 0)
def mX3_append : oM := (yX3_append, cX3_append, 5, some .int, 0, 0)
set_option maxRecDepth 100000 in
theorem kc_X3_append : oMc mX3_append := ⟨(oWL_t (n := 458) rfl rfl), (oWL_t (n := 3) rfl rfl), by decide, by decide⟩
set_option maxRecDepth 100000 in
theorem ki_X3_append : oMi mX3_append := ⟨kc_X3_append, (oWL_t (n := 456) rfl rfl)⟩
set_option maxRecDepth 100000 in
theorem kv_X3_append : oMv mX3_append := ⟨ki_X3_append, (oWL_t (n := 457) rfl rfl)⟩
theorem kn_X3_append : oN mX3_append 2 := (by decide +kernel : (parseMethodDescriptor (yX3_append).desc).map (fun d => d.parameters.length) = some 2)
def mX3_readAll : oM := (yX3_readAll, cX3_readAll, 3, some .int, 9, 194)
set_option maxRecDepth 100000 in
theorem kc_X3_readAll : oMc mX3_readAll := ⟨(oWL_t (n := 467) rfl rfl), (oWL_t (n := 3) rfl rfl), by decide, by decide⟩
set_option maxRecDepth 100000 in
theorem ki_X3_readAll : oMi mX3_readAll := ⟨kc_X3_readAll, (oWL_t (n := 465) rfl rfl)⟩
set_option maxRecDepth 100000 in
theorem kv_X3_readAll : oMv mX3_readAll := ⟨ki_X3_readAll, (oWL_t (n := 466) rfl rfl)⟩
theorem kn_X3_readAll : oN mX3_readAll 1 := (by decide +kernel : (parseMethodDescriptor (yX3_readAll).desc).map (fun d => d.parameters.length) = some 1)
def mX3_readOnce : oM := (yX3_readOnce, cX3_readOnce, 6, some .int, 8, 169)
set_option maxRecDepth 100000 in
theorem kc_X3_readOnce : oMc mX3_readOnce := ⟨(oWL_t (n := 471) rfl rfl), (oWL_t (n := 3) rfl rfl), by decide, by decide⟩
set_option maxRecDepth 100000 in
theorem ki_X3_readOnce : oMi mX3_readOnce := ⟨kc_X3_readOnce, (oWL_t (n := 470) rfl rfl)⟩
set_option maxRecDepth 100000 in
theorem kv_X3_readOnce : oMv mX3_readOnce := ⟨ki_X3_readOnce, (oWL_p (n := 17) rfl rfl)⟩
theorem kn_X3_readOnce : oN mX3_readOnce 2 := (by decide +kernel : (parseMethodDescriptor (yX3_readOnce).desc).map (fun d => d.parameters.length) = some 2)
def mX3_takeToken : oM := (yX3_takeToken, cX3_takeToken, 2, some .int, 1, 21)
set_option maxRecDepth 100000 in
theorem kc_X3_takeToken : oMc mX3_takeToken := ⟨(oWL_t (n := 553) rfl rfl), (oWL_t (n := 3) rfl rfl), by decide, by decide⟩
set_option maxRecDepth 100000 in
theorem ki_X3_takeToken : oMi mX3_takeToken := ⟨kc_X3_takeToken, (oWL_t (n := 552) rfl rfl)⟩
set_option maxRecDepth 100000 in
theorem kv_X3_takeToken : oMv mX3_takeToken := ⟨ki_X3_takeToken, (oWL_p (n := 23) rfl rfl)⟩
theorem kn_X3_takeToken : oN mX3_takeToken 1 := (by decide +kernel : (parseMethodDescriptor (yX3_takeToken).desc).map (fun d => d.parameters.length) = some 1)
def mX3_canStandHere : oM := (yX3_canStandHere, cX3_canStandHere, 1, some .boolean, 0, 0)
set_option maxRecDepth 100000 in
theorem kc_X3_canStandHere : oMc mX3_canStandHere := ⟨(oWL_t (n := 557) rfl rfl), (oWL_t (n := 3) rfl rfl), by decide, by decide⟩
set_option maxRecDepth 100000 in
theorem ki_X3_canStandHere : oMi mX3_canStandHere := ⟨kc_X3_canStandHere, (oWL_t (n := 556) rfl rfl)⟩
set_option maxRecDepth 100000 in
theorem kv_X3_canStandHere : oMv mX3_canStandHere := ⟨ki_X3_canStandHere, (oWL_p (n := 24) rfl rfl)⟩
theorem kn_X3_canStandHere : oN mX3_canStandHere 0 := (by decide +kernel : (parseMethodDescriptor (yX3_canStandHere).desc).map (fun d => d.parameters.length) = some 0)
def mX3_takeWay : oM := (yX3_takeWay, cX3_takeWay, 1, none, 0, 0)
set_option maxRecDepth 100000 in
theorem kc_X3_takeWay : oMc mX3_takeWay := ⟨(oWL_t (n := 562) rfl rfl), (oWL_t (n := 3) rfl rfl), by decide, by decide⟩
set_option maxRecDepth 100000 in
theorem ki_X3_takeWay : oMi mX3_takeWay := ⟨kc_X3_takeWay, (oWL_t (n := 561) rfl rfl)⟩
set_option maxRecDepth 100000 in
theorem kv_X3_takeWay : oMv mX3_takeWay := ⟨ki_X3_takeWay, (oWL_p (n := 25) rfl rfl)⟩
theorem kn_X3_takeWay : oN mX3_takeWay 0 := (by decide +kernel : (parseMethodDescriptor (yX3_takeWay).desc).map (fun d => d.parameters.length) = some 0)
def mX3_readToken : oM := (yX3_readToken, cX3_readToken, 2, none, 7, 148)
set_option maxRecDepth 100000 in
theorem kc_X3_readToken : oMc mX3_readToken := ⟨(oWL_t (n := 475) rfl rfl), (oWL_t (n := 3) rfl rfl), by decide, by decide⟩
set_option maxRecDepth 100000 in
theorem ki_X3_readToken : oMi mX3_readToken := ⟨kc_X3_readToken, (oWL_t (n := 474) rfl rfl)⟩
set_option maxRecDepth 100000 in
theorem kv_X3_readToken : oMv mX3_readToken := ⟨ki_X3_readToken, (oWL_p (n := 18) rfl rfl)⟩
theorem kn_X3_readToken : oN mX3_readToken 0 := (by decide +kernel : (parseMethodDescriptor (yX3_readToken).desc).map (fun d => d.parameters.length) = some 0)
def mX3_nameToken : oM := (yX3_nameToken, cX3_nameToken, 1, some .int, 6, 128)
set_option maxRecDepth 100000 in
theorem kc_X3_nameToken : oMc mX3_nameToken := ⟨(oWL_t (n := 486) rfl rfl), (oWL_t (n := 3) rfl rfl), by decide, by decide⟩
set_option maxRecDepth 100000 in
theorem ki_X3_nameToken : oMi mX3_nameToken := ⟨kc_X3_nameToken, (oWL_t (n := 485) rfl rfl)⟩
set_option maxRecDepth 100000 in
theorem kv_X3_nameToken : oMv mX3_nameToken := ⟨ki_X3_nameToken, (oWL_p (n := 20) rfl rfl)⟩
theorem kn_X3_nameToken : oN mX3_nameToken 0 := (by decide +kernel : (parseMethodDescriptor (yX3_nameToken).desc).map (fun d => d.parameters.length) = some 0)
def mX3_isName : oM := (yX3_isName, cX3_isName, 3, some .boolean, 5, 106)
set_option maxRecDepth 100000 in
theorem kc_X3_isName : oMc mX3_isName := ⟨(oWL_t (n := 491) rfl rfl), (oWL_t (n := 3) rfl rfl), by decide, by decide⟩
set_option maxRecDepth 100000 in
theorem ki_X3_isName : oMi mX3_isName := ⟨kc_X3_isName, (oWL_t (n := 490) rfl rfl)⟩
set_option maxRecDepth 100000 in
theorem kv_X3_isName : oMv mX3_isName := ⟨ki_X3_isName, (oWL_p (n := 21) rfl rfl)⟩
theorem kn_X3_isName : oN mX3_isName 1 := (by decide +kernel : (parseMethodDescriptor (yX3_isName).desc).map (fun d => d.parameters.length) = some 1)
def mX3_numberToken : oM := (yX3_numberToken, cX3_numberToken, 2, some .int, 1, 21)
set_option maxRecDepth 100000 in
theorem kc_X3_numberToken : oMc mX3_numberToken := ⟨(oWL_t (n := 549) rfl rfl), (oWL_t (n := 3) rfl rfl), by decide, by decide⟩
set_option maxRecDepth 100000 in
theorem ki_X3_numberToken : oMi mX3_numberToken := ⟨kc_X3_numberToken, (oWL_t (n := 548) rfl rfl)⟩
set_option maxRecDepth 100000 in
theorem kv_X3_numberToken : oMv mX3_numberToken := ⟨ki_X3_numberToken, (oWL_p (n := 22) rfl rfl)⟩
theorem kn_X3_numberToken : oN mX3_numberToken 0 := (by decide +kernel : (parseMethodDescriptor (yX3_numberToken).desc).map (fun d => d.parameters.length) = some 0)
def mX3_isLetter : oM := (yX3_isLetter, cX3_isLetter, 1, some .boolean, 0, 0)
set_option maxRecDepth 100000 in
theorem kc_X3_isLetter : oMc mX3_isLetter := ⟨(oWL_t (n := 482) rfl rfl), (oWL_t (n := 3) rfl rfl), by decide, by decide⟩
set_option maxRecDepth 100000 in
theorem ks_X3_isLetter : oMs mX3_isLetter := ⟨kc_X3_isLetter, (oWL_t (n := 481) rfl rfl)⟩
theorem kn_X3_isLetter : oN mX3_isLetter 1 := (by decide +kernel : (parseMethodDescriptor (yX3_isLetter).desc).map (fun d => d.parameters.length) = some 1)
def mX3_isFigure : oM := (yX3_isFigure, cX3_isFigure, 1, some .boolean, 0, 0)
set_option maxRecDepth 100000 in
theorem kc_X3_isFigure : oMc mX3_isFigure := ⟨(oWL_t (n := 545) rfl rfl), (oWL_t (n := 3) rfl rfl), by decide, by decide⟩
set_option maxRecDepth 100000 in
theorem ks_X3_isFigure : oMs mX3_isFigure := ⟨kc_X3_isFigure, (oWL_t (n := 544) rfl rfl)⟩
theorem kn_X3_isFigure : oN mX3_isFigure 1 := (by decide +kernel : (parseMethodDescriptor (yX3_isFigure).desc).map (fun d => d.parameters.length) = some 1)
def mX3_byteAt : oM := (yX3_byteAt, cX3_byteAt, 2, some .int, 0, 0)
set_option maxRecDepth 100000 in
theorem kc_X3_byteAt : oMc mX3_byteAt := ⟨(oWL_t (n := 479) rfl rfl), (oWL_t (n := 3) rfl rfl), by decide, by decide⟩
set_option maxRecDepth 100000 in
theorem ki_X3_byteAt : oMi mX3_byteAt := ⟨kc_X3_byteAt, (oWL_t (n := 478) rfl rfl)⟩
set_option maxRecDepth 100000 in
theorem kv_X3_byteAt : oMv mX3_byteAt := ⟨ki_X3_byteAt, (oWL_p (n := 19) rfl rfl)⟩
theorem kn_X3_byteAt : oN mX3_byteAt 1 := (by decide +kernel : (parseMethodDescriptor (yX3_byteAt).desc).map (fun d => d.parameters.length) = some 1)
def mX4_init : oM := (yX4_init, cX4_init, 1, none, 1, 20)
set_option maxRecDepth 100000 in
theorem kc_X4_init : oMc mX4_init := ⟨(oWL_t (n := 28) rfl rfl), (oWL_t (n := 2) rfl rfl), by decide, by decide⟩
set_option maxRecDepth 100000 in
theorem ki_X4_init : oMi mX4_init := ⟨kc_X4_init, (oWL_t (n := 27) rfl rfl)⟩
theorem kn_X4_init : oN mX4_init 0 := (by decide +kernel : (parseMethodDescriptor (yX4_init).desc).map (fun d => d.parameters.length) = some 0)
def mX4_way : oM := (yX4_way, cX4_way, 1, some .int, 1, 23)
set_option maxRecDepth 100000 in
theorem kc_X4_way : oMc mX4_way := ⟨(oWL_t (n := 400) rfl rfl), (oWL_t (n := 2) rfl rfl), by decide, by decide⟩
set_option maxRecDepth 100000 in
theorem ki_X4_way : oMi mX4_way := ⟨kc_X4_way, (oWL_t (n := 398) rfl rfl)⟩
set_option maxRecDepth 100000 in
theorem kv_X4_way : oMv mX4_way := ⟨ki_X4_way, (oWL_t (n := 399) rfl rfl)⟩
theorem kn_X4_way : oN mX4_way 0 := (by decide +kernel : (parseMethodDescriptor (yX4_way).desc).map (fun d => d.parameters.length) = some 0)
def mX4_houseOn : oM := (yX4_houseOn, cX4_houseOn, 2, some .int, 0, 0)
set_option maxRecDepth 100000 in
theorem kc_X4_houseOn : oMc mX4_houseOn := ⟨(oWL_t (n := 408) rfl rfl), (oWL_t (n := 2) rfl rfl), by decide, by decide⟩
set_option maxRecDepth 100000 in
theorem ki_X4_houseOn : oMi mX4_houseOn := ⟨kc_X4_houseOn, (oWL_t (n := 406) rfl rfl)⟩
set_option maxRecDepth 100000 in
theorem kv_X4_houseOn : oMv mX4_houseOn := ⟨ki_X4_houseOn, (oWL_t (n := 407) rfl rfl)⟩
theorem kn_X4_houseOn : oN mX4_houseOn 1 := (by decide +kernel : (parseMethodDescriptor (yX4_houseOn).desc).map (fun d => d.parameters.length) = some 1)
def mX4_prepare : oM := (yX4_prepare, cX4_prepare, 5, none, 5, 114)
set_option maxRecDepth 100000 in
theorem kc_X4_prepare : oMc mX4_prepare := ⟨(oWL_t (n := 360) rfl rfl), (oWL_t (n := 2) rfl rfl), by decide, by decide⟩
set_option maxRecDepth 100000 in
theorem ki_X4_prepare : oMi mX4_prepare := ⟨kc_X4_prepare, (oWL_t (n := 358) rfl rfl)⟩
set_option maxRecDepth 100000 in
theorem kv_X4_prepare : oMv mX4_prepare := ⟨ki_X4_prepare, (oWL_t (n := 359) rfl rfl)⟩
theorem kn_X4_prepare : oN mX4_prepare 2 := (by decide +kernel : (parseMethodDescriptor (yX4_prepare).desc).map (fun d => d.parameters.length) = some 2)
def mX4_gather : oM := (yX4_gather, cX4_gather, 5, none, 1, 21)
set_option maxRecDepth 100000 in
theorem kc_X4_gather : oMc mX4_gather := ⟨(oWL_t (n := 364) rfl rfl), (oWL_t (n := 2) rfl rfl), by decide, by decide⟩
set_option maxRecDepth 100000 in
theorem ki_X4_gather : oMi mX4_gather := ⟨kc_X4_gather, (oWL_t (n := 363) rfl rfl)⟩
set_option maxRecDepth 100000 in
theorem kv_X4_gather : oMv mX4_gather := ⟨ki_X4_gather, (oWL_p (n := 7) rfl rfl)⟩
theorem kn_X4_gather : oN mX4_gather 2 := (by decide +kernel : (parseMethodDescriptor (yX4_gather).desc).map (fun d => d.parameters.length) = some 2)
def mX4_measure : oM := (yX4_measure, cX4_measure, 6, none, 3, 67)
set_option maxRecDepth 100000 in
theorem kc_X4_measure : oMc mX4_measure := ⟨(oWL_t (n := 369) rfl rfl), (oWL_t (n := 2) rfl rfl), by decide, by decide⟩
set_option maxRecDepth 100000 in
theorem ki_X4_measure : oMi mX4_measure := ⟨kc_X4_measure, (oWL_t (n := 368) rfl rfl)⟩
set_option maxRecDepth 100000 in
theorem kv_X4_measure : oMv mX4_measure := ⟨ki_X4_measure, (oWL_p (n := 8) rfl rfl)⟩
theorem kn_X4_measure : oN mX4_measure 2 := (by decide +kernel : (parseMethodDescriptor (yX4_measure).desc).map (fun d => d.parameters.length) = some 2)
def mX4_arrange : oM := (yX4_arrange, cX4_arrange, 5, none, 4, 90)
set_option maxRecDepth 100000 in
theorem kc_X4_arrange : oMc mX4_arrange := ⟨(oWL_t (n := 391) rfl rfl), (oWL_t (n := 2) rfl rfl), by decide, by decide⟩
set_option maxRecDepth 100000 in
theorem ki_X4_arrange : oMi mX4_arrange := ⟨kc_X4_arrange, (oWL_t (n := 390) rfl rfl)⟩
set_option maxRecDepth 100000 in
theorem kv_X4_arrange : oMv mX4_arrange := ⟨ki_X4_arrange, (oWL_p (n := 12) rfl rfl)⟩
theorem kn_X4_arrange : oN mX4_arrange 0 := (by decide +kernel : (parseMethodDescriptor (yX4_arrange).desc).map (fun d => d.parameters.length) = some 0)
def mX4_firstNext : oM := (yX4_firstNext, cX4_firstNext, 4, some .int, 3, 67)
set_option maxRecDepth 100000 in
theorem kc_X4_firstNext : oMc mX4_firstNext := ⟨(oWL_t (n := 395) rfl rfl), (oWL_t (n := 2) rfl rfl), by decide, by decide⟩
set_option maxRecDepth 100000 in
theorem ki_X4_firstNext : oMi mX4_firstNext := ⟨kc_X4_firstNext, (oWL_t (n := 394) rfl rfl)⟩
set_option maxRecDepth 100000 in
theorem kv_X4_firstNext : oMv mX4_firstNext := ⟨ki_X4_firstNext, (oWL_p (n := 13) rfl rfl)⟩
theorem kn_X4_firstNext : oN mX4_firstNext 2 := (by decide +kernel : (parseMethodDescriptor (yX4_firstNext).desc).map (fun d => d.parameters.length) = some 2)
def mX4_wayBy : oM := (yX4_wayBy, cX4_wayBy, 4, some .int, 2, 44)
set_option maxRecDepth 100000 in
theorem kc_X4_wayBy : oMc mX4_wayBy := ⟨(oWL_t (n := 382) rfl rfl), (oWL_t (n := 2) rfl rfl), by decide, by decide⟩
set_option maxRecDepth 100000 in
theorem ki_X4_wayBy : oMi mX4_wayBy := ⟨kc_X4_wayBy, (oWL_t (n := 381) rfl rfl)⟩
set_option maxRecDepth 100000 in
theorem kv_X4_wayBy : oMv mX4_wayBy := ⟨ki_X4_wayBy, (oWL_p (n := 10) rfl rfl)⟩
theorem kn_X4_wayBy : oN mX4_wayBy 3 := (by decide +kernel : (parseMethodDescriptor (yX4_wayBy).desc).map (fun d => d.parameters.length) = some 3)
def mX4_leastAt : oM := (yX4_leastAt, cX4_leastAt, 4, some .int, 0, 0)
set_option maxRecDepth 100000 in
theorem kc_X4_leastAt : oMc mX4_leastAt := ⟨(oWL_t (n := 386) rfl rfl), (oWL_t (n := 2) rfl rfl), by decide, by decide⟩
set_option maxRecDepth 100000 in
theorem ki_X4_leastAt : oMi mX4_leastAt := ⟨kc_X4_leastAt, (oWL_t (n := 385) rfl rfl)⟩
set_option maxRecDepth 100000 in
theorem kv_X4_leastAt : oMv mX4_leastAt := ⟨ki_X4_leastAt, (oWL_p (n := 11) rfl rfl)⟩
theorem kn_X4_leastAt : oN mX4_leastAt 2 := (by decide +kernel : (parseMethodDescriptor (yX4_leastAt).desc).map (fun d => d.parameters.length) = some 2)
def mX4_between : oM := (yX4_between, cX4_between, 3, some .int, 1, 22)
set_option maxRecDepth 100000 in
theorem kc_X4_between : oMc mX4_between := ⟨(oWL_t (n := 373) rfl rfl), (oWL_t (n := 2) rfl rfl), by decide, by decide⟩
set_option maxRecDepth 100000 in
theorem ki_X4_between : oMi mX4_between := ⟨kc_X4_between, (oWL_t (n := 372) rfl rfl)⟩
set_option maxRecDepth 100000 in
theorem kv_X4_between : oMv mX4_between := ⟨ki_X4_between, (oWL_p (n := 9) rfl rfl)⟩
theorem kn_X4_between : oN mX4_between 2 := (by decide +kernel : (parseMethodDescriptor (yX4_between).desc).map (fun d => d.parameters.length) = some 2)
def mX5_init : oM := (yX5_init, cX5_init, 1, none, 2, 40)
set_option maxRecDepth 100000 in
theorem kc_X5_init : oMc mX5_init := ⟨(oWL_t (n := 18) rfl rfl), (oWL_t (n := 1) rfl rfl), by decide, by decide⟩
set_option maxRecDepth 100000 in
theorem ki_X5_init : oMi mX5_init := ⟨kc_X5_init, (oWL_t (n := 17) rfl rfl)⟩
theorem kn_X5_init : oN mX5_init 0 := (by decide +kernel : (parseMethodDescriptor (yX5_init).desc).map (fun d => d.parameters.length) = some 0)
def mX5_house : oM := (yX5_house, cX5_house, 5, some .int, 3, 63)
set_option maxRecDepth 100000 in
theorem kc_X5_house : oMc mX5_house := ⟨(oWL_t (n := 158) rfl rfl), (oWL_t (n := 1) rfl rfl), by decide, by decide⟩
set_option maxRecDepth 100000 in
theorem ki_X5_house : oMi mX5_house := ⟨kc_X5_house, (oWL_t (n := 156) rfl rfl)⟩
set_option maxRecDepth 100000 in
theorem kv_X5_house : oMv mX5_house := ⟨ki_X5_house, (oWL_t (n := 157) rfl rfl)⟩
theorem kn_X5_house : oN mX5_house 3 := (by decide +kernel : (parseMethodDescriptor (yX5_house).desc).map (fun d => d.parameters.length) = some 3)
def mX5_prior : oM := (yX5_prior, cX5_prior, 7, some .int, 2, 42)
set_option maxRecDepth 100000 in
theorem kc_X5_prior : oMc mX5_prior := ⟨(oWL_t (n := 254) rfl rfl), (oWL_t (n := 1) rfl rfl), by decide, by decide⟩
set_option maxRecDepth 100000 in
theorem ki_X5_prior : oMi mX5_prior := ⟨kc_X5_prior, (oWL_t (n := 252) rfl rfl)⟩
set_option maxRecDepth 100000 in
theorem kv_X5_prior : oMv mX5_prior := ⟨ki_X5_prior, (oWL_t (n := 253) rfl rfl)⟩
theorem kn_X5_prior : oN mX5_prior 5 := (by decide +kernel : (parseMethodDescriptor (yX5_prior).desc).map (fun d => d.parameters.length) = some 5)
def mX5_day : oM := (yX5_day, cX5_day, 7, some .int, 2, 42)
set_option maxRecDepth 100000 in
theorem kc_X5_day : oMc mX5_day := ⟨(oWL_t (n := 266) rfl rfl), (oWL_t (n := 1) rfl rfl), by decide, by decide⟩
set_option maxRecDepth 100000 in
theorem ki_X5_day : oMi mX5_day := ⟨kc_X5_day, (oWL_t (n := 264) rfl rfl)⟩
set_option maxRecDepth 100000 in
theorem kv_X5_day : oMv mX5_day := ⟨ki_X5_day, (oWL_t (n := 265) rfl rfl)⟩
theorem kn_X5_day : oN mX5_day 1 := (by decide +kernel : (parseMethodDescriptor (yX5_day).desc).map (fun d => d.parameters.length) = some 1)
def mX5_look : oM := (yX5_look, cX5_look, 3, some .int, 3, 68)
set_option maxRecDepth 100000 in
theorem kc_X5_look : oMc mX5_look := ⟨(oWL_t (n := 289) rfl rfl), (oWL_t (n := 1) rfl rfl), by decide, by decide⟩
set_option maxRecDepth 100000 in
theorem ki_X5_look : oMi mX5_look := ⟨kc_X5_look, (oWL_t (n := 287) rfl rfl)⟩
set_option maxRecDepth 100000 in
theorem kv_X5_look : oMv mX5_look := ⟨ki_X5_look, (oWL_t (n := 288) rfl rfl)⟩
theorem kn_X5_look : oN mX5_look 2 := (by decide +kernel : (parseMethodDescriptor (yX5_look).desc).map (fun d => d.parameters.length) = some 2)
def mX5_told : oM := (yX5_told, cX5_told, 4, some .int, 2, 43)
set_option maxRecDepth 100000 in
theorem kc_X5_told : oMc mX5_told := ⟨(oWL_t (n := 301) rfl rfl), (oWL_t (n := 1) rfl rfl), by decide, by decide⟩
set_option maxRecDepth 100000 in
theorem ki_X5_told : oMi mX5_told := ⟨kc_X5_told, (oWL_t (n := 299) rfl rfl)⟩
set_option maxRecDepth 100000 in
theorem kv_X5_told : oMv mX5_told := ⟨ki_X5_told, (oWL_t (n := 300) rfl rfl)⟩
theorem kn_X5_told : oN mX5_told 2 := (by decide +kernel : (parseMethodDescriptor (yX5_told).desc).map (fun d => d.parameters.length) = some 2)
def mX5_lasts : oM := (yX5_lasts, cX5_lasts, 4, some .int, 2, 43)
set_option maxRecDepth 100000 in
theorem kc_X5_lasts : oMc mX5_lasts := ⟨(oWL_t (n := 305) rfl rfl), (oWL_t (n := 1) rfl rfl), by decide, by decide⟩
set_option maxRecDepth 100000 in
theorem ki_X5_lasts : oMi mX5_lasts := ⟨kc_X5_lasts, (oWL_t (n := 303) rfl rfl)⟩
set_option maxRecDepth 100000 in
theorem kv_X5_lasts : oMv mX5_lasts := ⟨ki_X5_lasts, (oWL_t (n := 304) rfl rfl)⟩
theorem kn_X5_lasts : oN mX5_lasts 2 := (by decide +kernel : (parseMethodDescriptor (yX5_lasts).desc).map (fun d => d.parameters.length) = some 2)
def mX5_stock : oM := (yX5_stock, cX5_stock, 2, some .int, 1, 22)
set_option maxRecDepth 100000 in
theorem kc_X5_stock : oMc mX5_stock := ⟨(oWL_t (n := 316) rfl rfl), (oWL_t (n := 1) rfl rfl), by decide, by decide⟩
set_option maxRecDepth 100000 in
theorem ki_X5_stock : oMi mX5_stock := ⟨kc_X5_stock, (oWL_t (n := 314) rfl rfl)⟩
set_option maxRecDepth 100000 in
theorem kv_X5_stock : oMv mX5_stock := ⟨ki_X5_stock, (oWL_t (n := 315) rfl rfl)⟩
theorem kn_X5_stock : oN mX5_stock 1 := (by decide +kernel : (parseMethodDescriptor (yX5_stock).desc).map (fun d => d.parameters.length) = some 1)
def mX5_lorry : oM := (yX5_lorry, cX5_lorry, 3, some .int, 1, 22)
set_option maxRecDepth 100000 in
theorem kc_X5_lorry : oMc mX5_lorry := ⟨(oWL_t (n := 321) rfl rfl), (oWL_t (n := 1) rfl rfl), by decide, by decide⟩
set_option maxRecDepth 100000 in
theorem ki_X5_lorry : oMi mX5_lorry := ⟨kc_X5_lorry, (oWL_t (n := 319) rfl rfl)⟩
set_option maxRecDepth 100000 in
theorem kv_X5_lorry : oMv mX5_lorry := ⟨ki_X5_lorry, (oWL_t (n := 320) rfl rfl)⟩
theorem kn_X5_lorry : oN mX5_lorry 1 := (by decide +kernel : (parseMethodDescriptor (yX5_lorry).desc).map (fun d => d.parameters.length) = some 1)
def mX5_calls : oM := (yX5_calls, cX5_calls, 7, some .int, 3, 69)
set_option maxRecDepth 100000 in
theorem kc_X5_calls : oMc mX5_calls := ⟨(oWL_t (n := 325) rfl rfl), (oWL_t (n := 1) rfl rfl), by decide, by decide⟩
set_option maxRecDepth 100000 in
theorem ki_X5_calls : oMi mX5_calls := ⟨kc_X5_calls, (oWL_t (n := 323) rfl rfl)⟩
set_option maxRecDepth 100000 in
theorem kv_X5_calls : oMv mX5_calls := ⟨ki_X5_calls, (oWL_t (n := 324) rfl rfl)⟩
theorem kn_X5_calls : oN mX5_calls 0 := (by decide +kernel : (parseMethodDescriptor (yX5_calls).desc).map (fun d => d.parameters.length) = some 0)
def mX5_round : oM := (yX5_round, cX5_round, 4, some .int, 6, 138)
set_option maxRecDepth 100000 in
theorem kc_X5_round : oMc mX5_round := ⟨(oWL_t (n := 348) rfl rfl), (oWL_t (n := 1) rfl rfl), by decide, by decide⟩
set_option maxRecDepth 100000 in
theorem ki_X5_round : oMi mX5_round := ⟨kc_X5_round, (oWL_t (n := 346) rfl rfl)⟩
set_option maxRecDepth 100000 in
theorem kv_X5_round : oMv mX5_round := ⟨ki_X5_round, (oWL_t (n := 347) rfl rfl)⟩
theorem kn_X5_round : oN mX5_round 2 := (by decide +kernel : (parseMethodDescriptor (yX5_round).desc).map (fun d => d.parameters.length) = some 2)
def mX5_stop : oM := (yX5_stop, cX5_stop, 3, some .int, 6, 138)
set_option maxRecDepth 100000 in
theorem kc_X5_stop : oMc mX5_stop := ⟨(oWL_t (n := 404) rfl rfl), (oWL_t (n := 1) rfl rfl), by decide, by decide⟩
set_option maxRecDepth 100000 in
theorem ki_X5_stop : oMi mX5_stop := ⟨kc_X5_stop, (oWL_t (n := 402) rfl rfl)⟩
set_option maxRecDepth 100000 in
theorem kv_X5_stop : oMv mX5_stop := ⟨ki_X5_stop, (oWL_t (n := 403) rfl rfl)⟩
theorem kn_X5_stop : oN mX5_stop 2 := (by decide +kernel : (parseMethodDescriptor (yX5_stop).desc).map (fun d => d.parameters.length) = some 2)
def mX5_fill : oM := (yX5_fill, cX5_fill, 5, some .int, 4, 85)
set_option maxRecDepth 100000 in
theorem kc_X5_fill : oMc mX5_fill := ⟨(oWL_t (n := 412) rfl rfl), (oWL_t (n := 1) rfl rfl), by decide, by decide⟩
set_option maxRecDepth 100000 in
theorem ki_X5_fill : oMi mX5_fill := ⟨kc_X5_fill, (oWL_t (n := 410) rfl rfl)⟩
set_option maxRecDepth 100000 in
theorem kv_X5_fill : oMv mX5_fill := ⟨ki_X5_fill, (oWL_t (n := 411) rfl rfl)⟩
theorem kn_X5_fill : oN mX5_fill 2 := (by decide +kernel : (parseMethodDescriptor (yX5_fill).desc).map (fun d => d.parameters.length) = some 2)
def mX5_price : oM := (yX5_price, cX5_price, 3, some .int, 1, 22)
set_option maxRecDepth 100000 in
theorem kc_X5_price : oMc mX5_price := ⟨(oWL_t (n := 450) rfl rfl), (oWL_t (n := 1) rfl rfl), by decide, by decide⟩
set_option maxRecDepth 100000 in
theorem ki_X5_price : oMi mX5_price := ⟨kc_X5_price, (oWL_t (n := 448) rfl rfl)⟩
set_option maxRecDepth 100000 in
theorem kv_X5_price : oMv mX5_price := ⟨ki_X5_price, (oWL_t (n := 449) rfl rfl)⟩
theorem kn_X5_price : oN mX5_price 1 := (by decide +kernel : (parseMethodDescriptor (yX5_price).desc).map (fun d => d.parameters.length) = some 1)
def mX5_feed : oM := (yX5_feed, cX5_feed, 4, some .int, 1, 24)
set_option maxRecDepth 100000 in
theorem kc_X5_feed : oMc mX5_feed := ⟨(oWL_t (n := 454) rfl rfl), (oWL_t (n := 1) rfl rfl), by decide, by decide⟩
set_option maxRecDepth 100000 in
theorem ki_X5_feed : oMi mX5_feed := ⟨kc_X5_feed, (oWL_t (n := 452) rfl rfl)⟩
set_option maxRecDepth 100000 in
theorem kv_X5_feed : oMv mX5_feed := ⟨ki_X5_feed, (oWL_t (n := 453) rfl rfl)⟩
theorem kn_X5_feed : oN mX5_feed 2 := (by decide +kernel : (parseMethodDescriptor (yX5_feed).desc).map (fun d => d.parameters.length) = some 2)
def mX5_plans : oM := (yX5_plans, cX5_plans, 1, some .int, 10, 216)
set_option maxRecDepth 100000 in
theorem kc_X5_plans : oMc mX5_plans := ⟨(oWL_t (n := 463) rfl rfl), (oWL_t (n := 1) rfl rfl), by decide, by decide⟩
set_option maxRecDepth 100000 in
theorem ki_X5_plans : oMi mX5_plans := ⟨kc_X5_plans, (oWL_t (n := 461) rfl rfl)⟩
set_option maxRecDepth 100000 in
theorem kv_X5_plans : oMv mX5_plans := ⟨ki_X5_plans, (oWL_t (n := 462) rfl rfl)⟩
theorem kn_X5_plans : oN mX5_plans 0 := (by decide +kernel : (parseMethodDescriptor (yX5_plans).desc).map (fun d => d.parameters.length) = some 0)
def mX5_fault : oM := (yX5_fault, cX5_fault, 1, some .int, 0, 0)
set_option maxRecDepth 100000 in
theorem kc_X5_fault : oMc mX5_fault := ⟨(oWL_t (n := 571) rfl rfl), (oWL_t (n := 1) rfl rfl), by decide, by decide⟩
set_option maxRecDepth 100000 in
theorem ki_X5_fault : oMi mX5_fault := ⟨kc_X5_fault, (oWL_t (n := 569) rfl rfl)⟩
set_option maxRecDepth 100000 in
theorem kv_X5_fault : oMv mX5_fault := ⟨ki_X5_fault, (oWL_t (n := 570) rfl rfl)⟩
theorem kn_X5_fault : oN mX5_fault 0 := (by decide +kernel : (parseMethodDescriptor (yX5_fault).desc).map (fun d => d.parameters.length) = some 0)
def mX5_quote : oM := (yX5_quote, cX5_quote, 4, some .int, 3, 64)
set_option maxRecDepth 100000 in
theorem kc_X5_quote : oMc mX5_quote := ⟨(oWL_t (n := 575) rfl rfl), (oWL_t (n := 1) rfl rfl), by decide, by decide⟩
set_option maxRecDepth 100000 in
theorem ki_X5_quote : oMi mX5_quote := ⟨kc_X5_quote, (oWL_t (n := 573) rfl rfl)⟩
set_option maxRecDepth 100000 in
theorem kv_X5_quote : oMv mX5_quote := ⟨ki_X5_quote, (oWL_t (n := 574) rfl rfl)⟩
theorem kn_X5_quote : oN mX5_quote 2 := (by decide +kernel : (parseMethodDescriptor (yX5_quote).desc).map (fun d => d.parameters.length) = some 2)
def mX5_kind : oM := (yX5_kind, cX5_kind, 3, some .int, 3, 60)
set_option maxRecDepth 100000 in
theorem kc_X5_kind : oMc mX5_kind := ⟨(oWL_t (n := 579) rfl rfl), (oWL_t (n := 1) rfl rfl), by decide, by decide⟩
set_option maxRecDepth 100000 in
theorem ki_X5_kind : oMi mX5_kind := ⟨kc_X5_kind, (oWL_t (n := 577) rfl rfl)⟩
set_option maxRecDepth 100000 in
theorem kv_X5_kind : oMv mX5_kind := ⟨ki_X5_kind, (oWL_t (n := 578) rfl rfl)⟩
theorem kn_X5_kind : oN mX5_kind 1 := (by decide +kernel : (parseMethodDescriptor (yX5_kind).desc).map (fun d => d.parameters.length) = some 1)
def mX5_as : oM := (yX5_as, cX5_as, 4, some .int, 3, 61)
set_option maxRecDepth 100000 in
theorem kc_X5_as : oMc mX5_as := ⟨(oWL_t (n := 599) rfl rfl), (oWL_t (n := 1) rfl rfl), by decide, by decide⟩
set_option maxRecDepth 100000 in
theorem ki_X5_as : oMi mX5_as := ⟨kc_X5_as, (oWL_t (n := 597) rfl rfl)⟩
set_option maxRecDepth 100000 in
theorem kv_X5_as : oMv mX5_as := ⟨ki_X5_as, (oWL_t (n := 598) rfl rfl)⟩
theorem kn_X5_as : oN mX5_as 2 := (by decide +kernel : (parseMethodDescriptor (yX5_as).desc).map (fun d => d.parameters.length) = some 2)
def mX5_ask : oM := (yX5_ask, cX5_ask, 4, some .int, 7, 147)
set_option maxRecDepth 100000 in
theorem kc_X5_ask : oMc mX5_ask := ⟨(oWL_t (n := 608) rfl rfl), (oWL_t (n := 1) rfl rfl), by decide, by decide⟩
set_option maxRecDepth 100000 in
theorem ki_X5_ask : oMi mX5_ask := ⟨kc_X5_ask, (oWL_t (n := 606) rfl rfl)⟩
set_option maxRecDepth 100000 in
theorem kv_X5_ask : oMv mX5_ask := ⟨ki_X5_ask, (oWL_t (n := 607) rfl rfl)⟩
theorem kn_X5_ask : oN mX5_ask 2 := (by decide +kernel : (parseMethodDescriptor (yX5_ask).desc).map (fun d => d.parameters.length) = some 2)
def mX5_trace : oM := (yX5_trace, cX5_trace, 2, some .int, 1, 21)
set_option maxRecDepth 100000 in
theorem kc_X5_trace : oMc mX5_trace := ⟨(oWL_t (n := 658) rfl rfl), (oWL_t (n := 1) rfl rfl), by decide, by decide⟩
set_option maxRecDepth 100000 in
theorem ki_X5_trace : oMi mX5_trace := ⟨kc_X5_trace, (oWL_t (n := 656) rfl rfl)⟩
set_option maxRecDepth 100000 in
theorem kv_X5_trace : oMv mX5_trace := ⟨ki_X5_trace, (oWL_t (n := 657) rfl rfl)⟩
theorem kn_X5_trace : oN mX5_trace 1 := (by decide +kernel : (parseMethodDescriptor (yX5_trace).desc).map (fun d => d.parameters.length) = some 1)
def mX5_count : oM := (yX5_count, cX5_count, 2, some .long, 3, 68)
set_option maxRecDepth 100000 in
theorem kc_X5_count : oMc mX5_count := ⟨(oWL_t (n := 667) rfl rfl), (oWL_t (n := 1) rfl rfl), by decide, by decide⟩
set_option maxRecDepth 100000 in
theorem ki_X5_count : oMi mX5_count := ⟨kc_X5_count, (oWL_t (n := 665) rfl rfl)⟩
set_option maxRecDepth 100000 in
theorem kv_X5_count : oMv mX5_count := ⟨ki_X5_count, (oWL_t (n := 666) rfl rfl)⟩
theorem kn_X5_count : oN mX5_count 1 := (by decide +kernel : (parseMethodDescriptor (yX5_count).desc).map (fun d => d.parameters.length) = some 1)
def mX5_isOutside : oM := (yX5_isOutside, cX5_isOutside, 3, some .boolean, 0, 0)
set_option maxRecDepth 100000 in
theorem kc_X5_isOutside : oMc mX5_isOutside := ⟨(oWL_t (n := 161) rfl rfl), (oWL_t (n := 1) rfl rfl), by decide, by decide⟩
set_option maxRecDepth 100000 in
theorem ks_X5_isOutside : oMs mX5_isOutside := ⟨kc_X5_isOutside, (oWL_t (n := 160) rfl rfl)⟩
theorem kn_X5_isOutside : oN mX5_isOutside 3 := (by decide +kernel : (parseMethodDescriptor (yX5_isOutside).desc).map (fun d => d.parameters.length) = some 3)
def mX5_houseIn : oM := (yX5_houseIn, cX5_houseIn, 2, some (.object "OilRound$House"), 0, 0)
set_option maxRecDepth 100000 in
theorem kc_X5_houseIn : oMc mX5_houseIn := ⟨(oWL_t (n := 261) rfl rfl), (oWL_t (n := 1) rfl rfl), by decide, by decide⟩
set_option maxRecDepth 100000 in
theorem ks_X5_houseIn : oMs mX5_houseIn := ⟨kc_X5_houseIn, (oWL_t (n := 260) rfl rfl)⟩
theorem kn_X5_houseIn : oN mX5_houseIn 2 := (by decide +kernel : (parseMethodDescriptor (yX5_houseIn).desc).map (fun d => d.parameters.length) = some 2)
def mX5_houseAt : oM := (yX5_houseAt, cX5_houseAt, 2, some (.object "OilRound$House"), 1, 21)
set_option maxRecDepth 100000 in
theorem kc_X5_houseAt : oMc mX5_houseAt := ⟨(oWL_t (n := 258) rfl rfl), (oWL_t (n := 1) rfl rfl), by decide, by decide⟩
set_option maxRecDepth 100000 in
theorem ki_X5_houseAt : oMi mX5_houseAt := ⟨kc_X5_houseAt, (oWL_t (n := 257) rfl rfl)⟩
set_option maxRecDepth 100000 in
theorem kv_X5_houseAt : oMv mX5_houseAt := ⟨ki_X5_houseAt, (oWL_p (n := 0) rfl rfl)⟩
theorem kn_X5_houseAt : oN mX5_houseAt 1 := (by decide +kernel : (parseMethodDescriptor (yX5_houseAt).desc).map (fun d => d.parameters.length) = some 1)
def mX5_countDue : oM := (yX5_countDue, cX5_countDue, 6, some .int, 2, 43)
set_option maxRecDepth 100000 in
theorem kc_X5_countDue : oMc mX5_countDue := ⟨(oWL_t (n := 293) rfl rfl), (oWL_t (n := 1) rfl rfl), by decide, by decide⟩
set_option maxRecDepth 100000 in
theorem ki_X5_countDue : oMi mX5_countDue := ⟨kc_X5_countDue, (oWL_t (n := 292) rfl rfl)⟩
set_option maxRecDepth 100000 in
theorem kv_X5_countDue : oMv mX5_countDue := ⟨ki_X5_countDue, (oWL_p (n := 3) rfl rfl)⟩
theorem kn_X5_countDue : oN mX5_countDue 0 := (by decide +kernel : (parseMethodDescriptor (yX5_countDue).desc).map (fun d => d.parameters.length) = some 0)
def mX5_mostUrgent : oM := (yX5_mostUrgent, cX5_mostUrgent, 7, some .int, 2, 43)
set_option maxRecDepth 100000 in
theorem kc_X5_mostUrgent : oMc mX5_mostUrgent := ⟨(oWL_t (n := 335) rfl rfl), (oWL_t (n := 1) rfl rfl), by decide, by decide⟩
set_option maxRecDepth 100000 in
theorem ki_X5_mostUrgent : oMi mX5_mostUrgent := ⟨kc_X5_mostUrgent, (oWL_t (n := 334) rfl rfl)⟩
set_option maxRecDepth 100000 in
theorem kv_X5_mostUrgent : oMv mX5_mostUrgent := ⟨ki_X5_mostUrgent, (oWL_p (n := 4) rfl rfl)⟩
theorem kn_X5_mostUrgent : oN mX5_mostUrgent 1 := (by decide +kernel : (parseMethodDescriptor (yX5_mostUrgent).desc).map (fun d => d.parameters.length) = some 1)
def mX5_isNoRound : oM := (yX5_isNoRound, cX5_isNoRound, 2, some .boolean, 1, 20)
set_option maxRecDepth 100000 in
theorem kc_X5_isNoRound : oMc mX5_isNoRound := ⟨(oWL_t (n := 352) rfl rfl), (oWL_t (n := 1) rfl rfl), by decide, by decide⟩
set_option maxRecDepth 100000 in
theorem ki_X5_isNoRound : oMi mX5_isNoRound := ⟨kc_X5_isNoRound, (oWL_t (n := 351) rfl rfl)⟩
set_option maxRecDepth 100000 in
theorem kv_X5_isNoRound : oMv mX5_isNoRound := ⟨ki_X5_isNoRound, (oWL_p (n := 5) rfl rfl)⟩
theorem kn_X5_isNoRound : oN mX5_isNoRound 1 := (by decide +kernel : (parseMethodDescriptor (yX5_isNoRound).desc).map (fun d => d.parameters.length) = some 1)
def mX5_needOf : oM := (yX5_needOf, cX5_needOf, 5, some .int, 1, 20)
set_option maxRecDepth 100000 in
theorem kc_X5_needOf : oMc mX5_needOf := ⟨(oWL_t (n := 356) rfl rfl), (oWL_t (n := 1) rfl rfl), by decide, by decide⟩
set_option maxRecDepth 100000 in
theorem ki_X5_needOf : oMi mX5_needOf := ⟨kc_X5_needOf, (oWL_t (n := 355) rfl rfl)⟩
set_option maxRecDepth 100000 in
theorem kv_X5_needOf : oMv mX5_needOf := ⟨ki_X5_needOf, (oWL_p (n := 6) rfl rfl)⟩
theorem kn_X5_needOf : oN mX5_needOf 1 := (by decide +kernel : (parseMethodDescriptor (yX5_needOf).desc).map (fun d => d.parameters.length) = some 1)
def mX6_init : oM := (yX6_init, cX6_init, 1, none, 1, 20)
set_option maxRecDepth 100000 in
theorem kc_X6_init : oMc mX6_init := ⟨(oWL_t (n := 673) rfl rfl), (oWL_t (n := 5) rfl rfl), by decide, by decide⟩
set_option maxRecDepth 100000 in
theorem ki_X6_init : oMi mX6_init := ⟨kc_X6_init, (oWL_t (n := 672) rfl rfl)⟩
theorem kn_X6_init : oN mX6_init 0 := (by decide +kernel : (parseMethodDescriptor (yX6_init).desc).map (fun d => d.parameters.length) = some 0)
def mX6_in : oM := (yX6_in, cX6_in, 6, some .boolean, 0, 0)
set_option maxRecDepth 100000 in
theorem kc_X6_in : oMc mX6_in := ⟨(oWL_t (n := 819) rfl rfl), (oWL_t (n := 5) rfl rfl), by decide, by decide⟩
set_option maxRecDepth 100000 in
theorem ks_X6_in : oMs mX6_in := ⟨kc_X6_in, (oWL_t (n := 818) rfl rfl)⟩
theorem kn_X6_in : oN mX6_in 3 := (by decide +kernel : (parseMethodDescriptor (yX6_in).desc).map (fun d => d.parameters.length) = some 3)
def mX6_isHouse : oM := (yX6_isHouse, cX6_isHouse, 2, some .boolean, 1, 25)
set_option maxRecDepth 100000 in
theorem kc_X6_isHouse : oMc mX6_isHouse := ⟨(oWL_t (n := 831) rfl rfl), (oWL_t (n := 5) rfl rfl), by decide, by decide⟩
set_option maxRecDepth 100000 in
theorem ki_X6_isHouse : oMi mX6_isHouse := ⟨kc_X6_isHouse, (oWL_t (n := 830) rfl rfl)⟩
set_option maxRecDepth 100000 in
theorem kv_X6_isHouse : oMv mX6_isHouse := ⟨ki_X6_isHouse, (oWL_p (n := 37) rfl rfl)⟩
theorem kn_X6_isHouse : oN mX6_isHouse 1 := (by decide +kernel : (parseMethodDescriptor (yX6_isHouse).desc).map (fun d => d.parameters.length) = some 1)
def mX6_house : oM := (yX6_house, cX6_house, 5, some .int, 1, 25)
set_option maxRecDepth 100000 in
theorem kc_X6_house : oMc mX6_house := ⟨(oWL_t (n := 815) rfl rfl), (oWL_t (n := 5) rfl rfl), by decide, by decide⟩
set_option maxRecDepth 100000 in
theorem ki_X6_house : oMi mX6_house := ⟨kc_X6_house, (oWL_t (n := 813) rfl rfl)⟩
set_option maxRecDepth 100000 in
theorem kv_X6_house : oMv mX6_house := ⟨ki_X6_house, (oWL_t (n := 814) rfl rfl)⟩
theorem kn_X6_house : oN mX6_house 3 := (by decide +kernel : (parseMethodDescriptor (yX6_house).desc).map (fun d => d.parameters.length) = some 3)
def mX6_prior : oM := (yX6_prior, cX6_prior, 6, some .int, 2, 46)
set_option maxRecDepth 100000 in
theorem kc_X6_prior : oMc mX6_prior := ⟨(oWL_t (n := 827) rfl rfl), (oWL_t (n := 5) rfl rfl), by decide, by decide⟩
set_option maxRecDepth 100000 in
theorem ki_X6_prior : oMi mX6_prior := ⟨kc_X6_prior, (oWL_t (n := 825) rfl rfl)⟩
set_option maxRecDepth 100000 in
theorem kv_X6_prior : oMv mX6_prior := ⟨ki_X6_prior, (oWL_t (n := 826) rfl rfl)⟩
theorem kn_X6_prior : oN mX6_prior 5 := (by decide +kernel : (parseMethodDescriptor (yX6_prior).desc).map (fun d => d.parameters.length) = some 5)
def mX6_lowOf : oM := (yX6_lowOf, cX6_lowOf, 3, some .int, 0, 0)
set_option maxRecDepth 100000 in
theorem kc_X6_lowOf : oMc mX6_lowOf := ⟨(oWL_t (n := 841) rfl rfl), (oWL_t (n := 5) rfl rfl), by decide, by decide⟩
set_option maxRecDepth 100000 in
theorem ki_X6_lowOf : oMi mX6_lowOf := ⟨kc_X6_lowOf, (oWL_t (n := 840) rfl rfl)⟩
set_option maxRecDepth 100000 in
theorem kv_X6_lowOf : oMv mX6_lowOf := ⟨ki_X6_lowOf, (oWL_p (n := 38) rfl rfl)⟩
theorem kn_X6_lowOf : oN mX6_lowOf 2 := (by decide +kernel : (parseMethodDescriptor (yX6_lowOf).desc).map (fun d => d.parameters.length) = some 2)
def mX6_highOf : oM := (yX6_highOf, cX6_highOf, 3, some .int, 0, 0)
set_option maxRecDepth 100000 in
theorem kc_X6_highOf : oMc mX6_highOf := ⟨(oWL_t (n := 845) rfl rfl), (oWL_t (n := 5) rfl rfl), by decide, by decide⟩
set_option maxRecDepth 100000 in
theorem ki_X6_highOf : oMi mX6_highOf := ⟨kc_X6_highOf, (oWL_t (n := 844) rfl rfl)⟩
set_option maxRecDepth 100000 in
theorem kv_X6_highOf : oMv mX6_highOf := ⟨ki_X6_highOf, (oWL_p (n := 39) rfl rfl)⟩
theorem kn_X6_highOf : oN mX6_highOf 2 := (by decide +kernel : (parseMethodDescriptor (yX6_highOf).desc).map (fun d => d.parameters.length) = some 2)
def mX6_day : oM := (yX6_day, cX6_day, 6, some .int, 1, 25)
set_option maxRecDepth 100000 in
theorem kc_X6_day : oMc mX6_day := ⟨(oWL_t (n := 836) rfl rfl), (oWL_t (n := 5) rfl rfl), by decide, by decide⟩
set_option maxRecDepth 100000 in
theorem ki_X6_day : oMi mX6_day := ⟨kc_X6_day, (oWL_t (n := 834) rfl rfl)⟩
set_option maxRecDepth 100000 in
theorem kv_X6_day : oMv mX6_day := ⟨ki_X6_day, (oWL_t (n := 835) rfl rfl)⟩
theorem kn_X6_day : oN mX6_day 1 := (by decide +kernel : (parseMethodDescriptor (yX6_day).desc).map (fun d => d.parameters.length) = some 1)
def mX6_isDue : oM := (yX6_isDue, cX6_isDue, 2, some .boolean, 1, 22)
set_option maxRecDepth 100000 in
theorem kc_X6_isDue : oMc mX6_isDue := ⟨(oWL_t (n := 858) rfl rfl), (oWL_t (n := 5) rfl rfl), by decide, by decide⟩
set_option maxRecDepth 100000 in
theorem ki_X6_isDue : oMi mX6_isDue := ⟨kc_X6_isDue, (oWL_t (n := 857) rfl rfl)⟩
set_option maxRecDepth 100000 in
theorem kv_X6_isDue : oMv mX6_isDue := ⟨ki_X6_isDue, (oWL_p (n := 41) rfl rfl)⟩
theorem kn_X6_isDue : oN mX6_isDue 1 := (by decide +kernel : (parseMethodDescriptor (yX6_isDue).desc).map (fun d => d.parameters.length) = some 1)
def mX6_due : oM := (yX6_due, cX6_due, 3, some .int, 2, 43)
set_option maxRecDepth 100000 in
theorem kc_X6_due : oMc mX6_due := ⟨(oWL_t (n := 854) rfl rfl), (oWL_t (n := 5) rfl rfl), by decide, by decide⟩
set_option maxRecDepth 100000 in
theorem ki_X6_due : oMi mX6_due := ⟨kc_X6_due, (oWL_t (n := 853) rfl rfl)⟩
set_option maxRecDepth 100000 in
theorem kv_X6_due : oMv mX6_due := ⟨ki_X6_due, (oWL_p (n := 40) rfl rfl)⟩
theorem kn_X6_due : oN mX6_due 0 := (by decide +kernel : (parseMethodDescriptor (yX6_due).desc).map (fun d => d.parameters.length) = some 0)
def mX6_look : oM := (yX6_look, cX6_look, 3, some .int, 3, 65)
set_option maxRecDepth 100000 in
theorem kc_X6_look : oMc mX6_look := ⟨(oWL_t (n := 849) rfl rfl), (oWL_t (n := 5) rfl rfl), by decide, by decide⟩
set_option maxRecDepth 100000 in
theorem ki_X6_look : oMi mX6_look := ⟨kc_X6_look, (oWL_t (n := 847) rfl rfl)⟩
set_option maxRecDepth 100000 in
theorem kv_X6_look : oMv mX6_look := ⟨ki_X6_look, (oWL_t (n := 848) rfl rfl)⟩
theorem kn_X6_look : oN mX6_look 2 := (by decide +kernel : (parseMethodDescriptor (yX6_look).desc).map (fun d => d.parameters.length) = some 2)
def mX6_told : oM := (yX6_told, cX6_told, 3, some .int, 2, 46)
set_option maxRecDepth 100000 in
theorem kc_X6_told : oMc mX6_told := ⟨(oWL_t (n := 862) rfl rfl), (oWL_t (n := 5) rfl rfl), by decide, by decide⟩
set_option maxRecDepth 100000 in
theorem ki_X6_told : oMi mX6_told := ⟨kc_X6_told, (oWL_t (n := 860) rfl rfl)⟩
set_option maxRecDepth 100000 in
theorem kv_X6_told : oMv mX6_told := ⟨ki_X6_told, (oWL_t (n := 861) rfl rfl)⟩
theorem kn_X6_told : oN mX6_told 2 := (by decide +kernel : (parseMethodDescriptor (yX6_told).desc).map (fun d => d.parameters.length) = some 2)
def mX6_lasts : oM := (yX6_lasts, cX6_lasts, 5, some .int, 2, 46)
set_option maxRecDepth 100000 in
theorem kc_X6_lasts : oMc mX6_lasts := ⟨(oWL_t (n := 866) rfl rfl), (oWL_t (n := 5) rfl rfl), by decide, by decide⟩
set_option maxRecDepth 100000 in
theorem ki_X6_lasts : oMi mX6_lasts := ⟨kc_X6_lasts, (oWL_t (n := 864) rfl rfl)⟩
set_option maxRecDepth 100000 in
theorem kv_X6_lasts : oMv mX6_lasts := ⟨ki_X6_lasts, (oWL_t (n := 865) rfl rfl)⟩
theorem kn_X6_lasts : oN mX6_lasts 2 := (by decide +kernel : (parseMethodDescriptor (yX6_lasts).desc).map (fun d => d.parameters.length) = some 2)
def mX6_stock : oM := (yX6_stock, cX6_stock, 2, some .int, 0, 0)
set_option maxRecDepth 100000 in
theorem kc_X6_stock : oMc mX6_stock := ⟨(oWL_t (n := 870) rfl rfl), (oWL_t (n := 5) rfl rfl), by decide, by decide⟩
set_option maxRecDepth 100000 in
theorem ki_X6_stock : oMi mX6_stock := ⟨kc_X6_stock, (oWL_t (n := 868) rfl rfl)⟩
set_option maxRecDepth 100000 in
theorem kv_X6_stock : oMv mX6_stock := ⟨ki_X6_stock, (oWL_t (n := 869) rfl rfl)⟩
theorem kn_X6_stock : oN mX6_stock 1 := (by decide +kernel : (parseMethodDescriptor (yX6_stock).desc).map (fun d => d.parameters.length) = some 1)
def mX6_lorry : oM := (yX6_lorry, cX6_lorry, 3, some .int, 1, 25)
set_option maxRecDepth 100000 in
theorem kc_X6_lorry : oMc mX6_lorry := ⟨(oWL_t (n := 875) rfl rfl), (oWL_t (n := 5) rfl rfl), by decide, by decide⟩
set_option maxRecDepth 100000 in
theorem ki_X6_lorry : oMi mX6_lorry := ⟨kc_X6_lorry, (oWL_t (n := 873) rfl rfl)⟩
set_option maxRecDepth 100000 in
theorem kv_X6_lorry : oMv mX6_lorry := ⟨ki_X6_lorry, (oWL_t (n := 874) rfl rfl)⟩
theorem kn_X6_lorry : oN mX6_lorry 1 := (by decide +kernel : (parseMethodDescriptor (yX6_lorry).desc).map (fun d => d.parameters.length) = some 1)
def mX6_canGo : oM := (yX6_canGo, cX6_canGo, 3, some .int, 1, 22)
set_option maxRecDepth 100000 in
theorem kc_X6_canGo : oMc mX6_canGo := ⟨(oWL_t (n := 885) rfl rfl), (oWL_t (n := 5) rfl rfl), by decide, by decide⟩
set_option maxRecDepth 100000 in
theorem ki_X6_canGo : oMi mX6_canGo := ⟨kc_X6_canGo, (oWL_t (n := 884) rfl rfl)⟩
set_option maxRecDepth 100000 in
theorem kv_X6_canGo : oMv mX6_canGo := ⟨ki_X6_canGo, (oWL_p (n := 42) rfl rfl)⟩
theorem kn_X6_canGo : oN mX6_canGo 1 := (by decide +kernel : (parseMethodDescriptor (yX6_canGo).desc).map (fun d => d.parameters.length) = some 1)
def mX6_calls : oM := (yX6_calls, cX6_calls, 8, some .int, 2, 44)
set_option maxRecDepth 100000 in
theorem kc_X6_calls : oMc mX6_calls := ⟨(oWL_t (n := 880) rfl rfl), (oWL_t (n := 5) rfl rfl), by decide, by decide⟩
set_option maxRecDepth 100000 in
theorem ki_X6_calls : oMi mX6_calls := ⟨kc_X6_calls, (oWL_t (n := 878) rfl rfl)⟩
set_option maxRecDepth 100000 in
theorem kv_X6_calls : oMv mX6_calls := ⟨ki_X6_calls, (oWL_t (n := 879) rfl rfl)⟩
theorem kn_X6_calls : oN mX6_calls 0 := (by decide +kernel : (parseMethodDescriptor (yX6_calls).desc).map (fun d => d.parameters.length) = some 0)
def mX6_isSet : oM := (yX6_isSet, cX6_isSet, 4, some .boolean, 2, 46)
set_option maxRecDepth 100000 in
theorem kc_X6_isSet : oMc mX6_isSet := ⟨(oWL_t (n := 893) rfl rfl), (oWL_t (n := 5) rfl rfl), by decide, by decide⟩
set_option maxRecDepth 100000 in
theorem ki_X6_isSet : oMi mX6_isSet := ⟨kc_X6_isSet, (oWL_t (n := 892) rfl rfl)⟩
set_option maxRecDepth 100000 in
theorem kv_X6_isSet : oMv mX6_isSet := ⟨ki_X6_isSet, (oWL_p (n := 43) rfl rfl)⟩
theorem kn_X6_isSet : oN mX6_isSet 1 := (by decide +kernel : (parseMethodDescriptor (yX6_isSet).desc).map (fun d => d.parameters.length) = some 1)
def mX6_size : oM := (yX6_size, cX6_size, 1, some .int, 0, 0)
set_option maxRecDepth 100000 in
theorem kc_X6_size : oMc mX6_size := ⟨(oWL_t (n := 905) rfl rfl), (oWL_t (n := 5) rfl rfl), by decide, by decide⟩
set_option maxRecDepth 100000 in
theorem ks_X6_size : oMs mX6_size := ⟨kc_X6_size, (oWL_t (n := 904) rfl rfl)⟩
theorem kn_X6_size : oN mX6_size 1 := (by decide +kernel : (parseMethodDescriptor (yX6_size).desc).map (fun d => d.parameters.length) = some 1)
def mX6_fromDepot : oM := (yX6_fromDepot, cX6_fromDepot, 2, some .int, 1, 20)
set_option maxRecDepth 100000 in
theorem kc_X6_fromDepot : oMc mX6_fromDepot := ⟨(oWL_t (n := 902) rfl rfl), (oWL_t (n := 5) rfl rfl), by decide, by decide⟩
set_option maxRecDepth 100000 in
theorem ki_X6_fromDepot : oMi mX6_fromDepot := ⟨kc_X6_fromDepot, (oWL_t (n := 901) rfl rfl)⟩
set_option maxRecDepth 100000 in
theorem kv_X6_fromDepot : oMv mX6_fromDepot := ⟨ki_X6_fromDepot, (oWL_p (n := 45) rfl rfl)⟩
theorem kn_X6_fromDepot : oN mX6_fromDepot 1 := (by decide +kernel : (parseMethodDescriptor (yX6_fromDepot).desc).map (fun d => d.parameters.length) = some 1)
def mX6_between : oM := (yX6_between, cX6_between, 3, some .int, 1, 20)
set_option maxRecDepth 100000 in
theorem kc_X6_between : oMc mX6_between := ⟨(oWL_t (n := 909) rfl rfl), (oWL_t (n := 5) rfl rfl), by decide, by decide⟩
set_option maxRecDepth 100000 in
theorem ki_X6_between : oMi mX6_between := ⟨kc_X6_between, (oWL_t (n := 908) rfl rfl)⟩
set_option maxRecDepth 100000 in
theorem kv_X6_between : oMv mX6_between := ⟨ki_X6_between, (oWL_p (n := 46) rfl rfl)⟩
theorem kn_X6_between : oN mX6_between 2 := (by decide +kernel : (parseMethodDescriptor (yX6_between).desc).map (fun d => d.parameters.length) = some 2)
def mX6_findWays : oM := (yX6_findWays, cX6_findWays, 6, none, 2, 42)
set_option maxRecDepth 100000 in
theorem kc_X6_findWays : oMc mX6_findWays := ⟨(oWL_t (n := 898) rfl rfl), (oWL_t (n := 5) rfl rfl), by decide, by decide⟩
set_option maxRecDepth 100000 in
theorem ki_X6_findWays : oMi mX6_findWays := ⟨kc_X6_findWays, (oWL_t (n := 897) rfl rfl)⟩
set_option maxRecDepth 100000 in
theorem kv_X6_findWays : oMv mX6_findWays := ⟨ki_X6_findWays, (oWL_p (n := 44) rfl rfl)⟩
theorem kn_X6_findWays : oN mX6_findWays 0 := (by decide +kernel : (parseMethodDescriptor (yX6_findWays).desc).map (fun d => d.parameters.length) = some 0)
def mX6_nextOf : oM := (yX6_nextOf, cX6_nextOf, 7, some .int, 2, 42)
set_option maxRecDepth 100000 in
theorem kc_X6_nextOf : oMc mX6_nextOf := ⟨(oWL_t (n := 913) rfl rfl), (oWL_t (n := 5) rfl rfl), by decide, by decide⟩
set_option maxRecDepth 100000 in
theorem ki_X6_nextOf : oMi mX6_nextOf := ⟨kc_X6_nextOf, (oWL_t (n := 912) rfl rfl)⟩
set_option maxRecDepth 100000 in
theorem kv_X6_nextOf : oMv mX6_nextOf := ⟨ki_X6_nextOf, (oWL_p (n := 47) rfl rfl)⟩
theorem kn_X6_nextOf : oN mX6_nextOf 2 := (by decide +kernel : (parseMethodDescriptor (yX6_nextOf).desc).map (fun d => d.parameters.length) = some 2)
def mX6_round : oM := (yX6_round, cX6_round, 6, some .int, 3, 69)
set_option maxRecDepth 100000 in
theorem kc_X6_round : oMc mX6_round := ⟨(oWL_t (n := 889) rfl rfl), (oWL_t (n := 5) rfl rfl), by decide, by decide⟩
set_option maxRecDepth 100000 in
theorem ki_X6_round : oMi mX6_round := ⟨kc_X6_round, (oWL_t (n := 887) rfl rfl)⟩
set_option maxRecDepth 100000 in
theorem kv_X6_round : oMv mX6_round := ⟨ki_X6_round, (oWL_t (n := 888) rfl rfl)⟩
theorem kn_X6_round : oN mX6_round 2 := (by decide +kernel : (parseMethodDescriptor (yX6_round).desc).map (fun d => d.parameters.length) = some 2)
def mX6_stop : oM := (yX6_stop, cX6_stop, 6, some .int, 3, 69)
set_option maxRecDepth 100000 in
theorem kc_X6_stop : oMc mX6_stop := ⟨(oWL_t (n := 917) rfl rfl), (oWL_t (n := 5) rfl rfl), by decide, by decide⟩
set_option maxRecDepth 100000 in
theorem ki_X6_stop : oMi mX6_stop := ⟨kc_X6_stop, (oWL_t (n := 915) rfl rfl)⟩
set_option maxRecDepth 100000 in
theorem kv_X6_stop : oMv mX6_stop := ⟨ki_X6_stop, (oWL_t (n := 916) rfl rfl)⟩
theorem kn_X6_stop : oN mX6_stop 2 := (by decide +kernel : (parseMethodDescriptor (yX6_stop).desc).map (fun d => d.parameters.length) = some 2)
def mX6_most : oM := (yX6_most, cX6_most, 2, some .int, 0, 0)
set_option maxRecDepth 100000 in
theorem kc_X6_most : oMc mX6_most := ⟨(oWL_t (n := 938) rfl rfl), (oWL_t (n := 5) rfl rfl), by decide, by decide⟩
set_option maxRecDepth 100000 in
theorem ks_X6_most : oMs mX6_most := ⟨kc_X6_most, (oWL_t (n := 937) rfl rfl)⟩
theorem kn_X6_most : oN mX6_most 2 := (by decide +kernel : (parseMethodDescriptor (yX6_most).desc).map (fun d => d.parameters.length) = some 2)
def mX6_least : oM := (yX6_least, cX6_least, 2, some .int, 0, 0)
set_option maxRecDepth 100000 in
theorem kc_X6_least : oMc mX6_least := ⟨(oWL_t (n := 928) rfl rfl), (oWL_t (n := 5) rfl rfl), by decide, by decide⟩
set_option maxRecDepth 100000 in
theorem ks_X6_least : oMs mX6_least := ⟨kc_X6_least, (oWL_t (n := 927) rfl rfl)⟩
theorem kn_X6_least : oN mX6_least 2 := (by decide +kernel : (parseMethodDescriptor (yX6_least).desc).map (fun d => d.parameters.length) = some 2)
def mX6_roundedUp : oM := (yX6_roundedUp, cX6_roundedUp, 2, some .int, 0, 0)
set_option maxRecDepth 100000 in
theorem kc_X6_roundedUp : oMc mX6_roundedUp := ⟨(oWL_t (n := 941) rfl rfl), (oWL_t (n := 5) rfl rfl), by decide, by decide⟩
set_option maxRecDepth 100000 in
theorem ks_X6_roundedUp : oMs mX6_roundedUp := ⟨kc_X6_roundedUp, (oWL_t (n := 940) rfl rfl)⟩
theorem kn_X6_roundedUp : oN mX6_roundedUp 2 := (by decide +kernel : (parseMethodDescriptor (yX6_roundedUp).desc).map (fun d => d.parameters.length) = some 2)
def mX6_cut : oM := (yX6_cut, cX6_cut, 2, some .int, 0, 0)
set_option maxRecDepth 100000 in
theorem kc_X6_cut : oMc mX6_cut := ⟨(oWL_t (n := 935) rfl rfl), (oWL_t (n := 5) rfl rfl), by decide, by decide⟩
set_option maxRecDepth 100000 in
theorem ks_X6_cut : oMs mX6_cut := ⟨kc_X6_cut, (oWL_t (n := 934) rfl rfl)⟩
theorem kn_X6_cut : oN mX6_cut 2 := (by decide +kernel : (parseMethodDescriptor (yX6_cut).desc).map (fun d => d.parameters.length) = some 2)
def mX6_makeNarrower : oM := (yX6_makeNarrower, cX6_makeNarrower, 9, none, 1, 21)
set_option maxRecDepth 100000 in
theorem kc_X6_makeNarrower : oMc mX6_makeNarrower := ⟨(oWL_t (n := 932) rfl rfl), (oWL_t (n := 5) rfl rfl), by decide, by decide⟩
set_option maxRecDepth 100000 in
theorem ki_X6_makeNarrower : oMi mX6_makeNarrower := ⟨kc_X6_makeNarrower, (oWL_t (n := 931) rfl rfl)⟩
set_option maxRecDepth 100000 in
theorem kv_X6_makeNarrower : oMv mX6_makeNarrower := ⟨ki_X6_makeNarrower, (oWL_p (n := 49) rfl rfl)⟩
theorem kn_X6_makeNarrower : oN mX6_makeNarrower 2 := (by decide +kernel : (parseMethodDescriptor (yX6_makeNarrower).desc).map (fun d => d.parameters.length) = some 2)
def mX6_cost : oM := (yX6_cost, cX6_cost, 4, some .int, 1, 21)
set_option maxRecDepth 100000 in
theorem kc_X6_cost : oMc mX6_cost := ⟨(oWL_t (n := 925) rfl rfl), (oWL_t (n := 5) rfl rfl), by decide, by decide⟩
set_option maxRecDepth 100000 in
theorem ki_X6_cost : oMi mX6_cost := ⟨kc_X6_cost, (oWL_t (n := 924) rfl rfl)⟩
set_option maxRecDepth 100000 in
theorem kv_X6_cost : oMv mX6_cost := ⟨ki_X6_cost, (oWL_p (n := 48) rfl rfl)⟩
theorem kn_X6_cost : oN mX6_cost 2 := (by decide +kernel : (parseMethodDescriptor (yX6_cost).desc).map (fun d => d.parameters.length) = some 2)
def mX6_fill : oM := (yX6_fill, cX6_fill, 8, some .int, 2, 49)
set_option maxRecDepth 100000 in
theorem kc_X6_fill : oMc mX6_fill := ⟨(oWL_t (n := 921) rfl rfl), (oWL_t (n := 5) rfl rfl), by decide, by decide⟩
set_option maxRecDepth 100000 in
theorem ki_X6_fill : oMi mX6_fill := ⟨kc_X6_fill, (oWL_t (n := 919) rfl rfl)⟩
set_option maxRecDepth 100000 in
theorem kv_X6_fill : oMv mX6_fill := ⟨ki_X6_fill, (oWL_t (n := 920) rfl rfl)⟩
theorem kn_X6_fill : oN mX6_fill 2 := (by decide +kernel : (parseMethodDescriptor (yX6_fill).desc).map (fun d => d.parameters.length) = some 2)
def mX6_price : oM := (yX6_price, cX6_price, 3, some .int, 1, 25)
set_option maxRecDepth 100000 in
theorem kc_X6_price : oMc mX6_price := ⟨(oWL_t (n := 945) rfl rfl), (oWL_t (n := 5) rfl rfl), by decide, by decide⟩
set_option maxRecDepth 100000 in
theorem ki_X6_price : oMi mX6_price := ⟨kc_X6_price, (oWL_t (n := 943) rfl rfl)⟩
set_option maxRecDepth 100000 in
theorem kv_X6_price : oMv mX6_price := ⟨ki_X6_price, (oWL_t (n := 944) rfl rfl)⟩
theorem kn_X6_price : oN mX6_price 1 := (by decide +kernel : (parseMethodDescriptor (yX6_price).desc).map (fun d => d.parameters.length) = some 1)
def mX6_quote : oM := (yX6_quote, cX6_quote, 3, some .int, 2, 46)
set_option maxRecDepth 100000 in
theorem kc_X6_quote : oMc mX6_quote := ⟨(oWL_t (n := 950) rfl rfl), (oWL_t (n := 5) rfl rfl), by decide, by decide⟩
set_option maxRecDepth 100000 in
theorem ki_X6_quote : oMi mX6_quote := ⟨kc_X6_quote, (oWL_t (n := 948) rfl rfl)⟩
set_option maxRecDepth 100000 in
theorem kv_X6_quote : oMv mX6_quote := ⟨ki_X6_quote, (oWL_t (n := 949) rfl rfl)⟩
theorem kn_X6_quote : oN mX6_quote 2 := (by decide +kernel : (parseMethodDescriptor (yX6_quote).desc).map (fun d => d.parameters.length) = some 2)
def mX6_feed : oM := (yX6_feed, cX6_feed, 5, some .int, 1, 25)
set_option maxRecDepth 100000 in
theorem kc_X6_feed : oMc mX6_feed := ⟨(oWL_t (n := 954) rfl rfl), (oWL_t (n := 5) rfl rfl), by decide, by decide⟩
set_option maxRecDepth 100000 in
theorem ki_X6_feed : oMi mX6_feed := ⟨kc_X6_feed, (oWL_t (n := 952) rfl rfl)⟩
set_option maxRecDepth 100000 in
theorem kv_X6_feed : oMv mX6_feed := ⟨ki_X6_feed, (oWL_t (n := 953) rfl rfl)⟩
theorem kn_X6_feed : oN mX6_feed 2 := (by decide +kernel : (parseMethodDescriptor (yX6_feed).desc).map (fun d => d.parameters.length) = some 2)
def mX6_byteAt : oM := (yX6_byteAt, cX6_byteAt, 2, some .int, 0, 0)
set_option maxRecDepth 100000 in
theorem kc_X6_byteAt : oMc mX6_byteAt := ⟨(oWL_t (n := 968) rfl rfl), (oWL_t (n := 5) rfl rfl), by decide, by decide⟩
set_option maxRecDepth 100000 in
theorem ki_X6_byteAt : oMi mX6_byteAt := ⟨kc_X6_byteAt, (oWL_t (n := 967) rfl rfl)⟩
set_option maxRecDepth 100000 in
theorem kv_X6_byteAt : oMv mX6_byteAt := ⟨ki_X6_byteAt, (oWL_p (n := 51) rfl rfl)⟩
theorem kn_X6_byteAt : oN mX6_byteAt 1 := (by decide +kernel : (parseMethodDescriptor (yX6_byteAt).desc).map (fun d => d.parameters.length) = some 1)
def mX6_isLetter : oM := (yX6_isLetter, cX6_isLetter, 1, some .boolean, 0, 0)
set_option maxRecDepth 100000 in
theorem kc_X6_isLetter : oMc mX6_isLetter := ⟨(oWL_t (n := 971) rfl rfl), (oWL_t (n := 5) rfl rfl), by decide, by decide⟩
set_option maxRecDepth 100000 in
theorem ks_X6_isLetter : oMs mX6_isLetter := ⟨kc_X6_isLetter, (oWL_t (n := 970) rfl rfl)⟩
theorem kn_X6_isLetter : oN mX6_isLetter 1 := (by decide +kernel : (parseMethodDescriptor (yX6_isLetter).desc).map (fun d => d.parameters.length) = some 1)
def mX6_isFigure : oM := (yX6_isFigure, cX6_isFigure, 1, some .boolean, 0, 0)
set_option maxRecDepth 100000 in
theorem kc_X6_isFigure : oMc mX6_isFigure := ⟨(oWL_t (n := 974) rfl rfl), (oWL_t (n := 5) rfl rfl), by decide, by decide⟩
set_option maxRecDepth 100000 in
theorem ks_X6_isFigure : oMs mX6_isFigure := ⟨kc_X6_isFigure, (oWL_t (n := 973) rfl rfl)⟩
theorem kn_X6_isFigure : oN mX6_isFigure 1 := (by decide +kernel : (parseMethodDescriptor (yX6_isFigure).desc).map (fun d => d.parameters.length) = some 1)
def mX6_step : oM := (yX6_step, cX6_step, 2, none, 1, 21)
set_option maxRecDepth 100000 in
theorem kc_X6_step : oMc mX6_step := ⟨(oWL_t (n := 964) rfl rfl), (oWL_t (n := 5) rfl rfl), by decide, by decide⟩
set_option maxRecDepth 100000 in
theorem ki_X6_step : oMi mX6_step := ⟨kc_X6_step, (oWL_t (n := 963) rfl rfl)⟩
set_option maxRecDepth 100000 in
theorem kv_X6_step : oMv mX6_step := ⟨ki_X6_step, (oWL_p (n := 50) rfl rfl)⟩
theorem kn_X6_step : oN mX6_step 0 := (by decide +kernel : (parseMethodDescriptor (yX6_step).desc).map (fun d => d.parameters.length) = some 0)
def mX6_bad : oM := (yX6_bad, cX6_bad, 2, none, 0, 0)
set_option maxRecDepth 100000 in
theorem kc_X6_bad : oMc mX6_bad := ⟨(oWL_t (n := 991) rfl rfl), (oWL_t (n := 5) rfl rfl), by decide, by decide⟩
set_option maxRecDepth 100000 in
theorem ki_X6_bad : oMi mX6_bad := ⟨kc_X6_bad, (oWL_t (n := 990) rfl rfl)⟩
set_option maxRecDepth 100000 in
theorem kv_X6_bad : oMv mX6_bad := ⟨ki_X6_bad, (oWL_p (n := 55) rfl rfl)⟩
theorem kn_X6_bad : oN mX6_bad 1 := (by decide +kernel : (parseMethodDescriptor (yX6_bad).desc).map (fun d => d.parameters.length) = some 1)
def mX6_take : oM := (yX6_take, cX6_take, 2, none, 2, 42)
set_option maxRecDepth 100000 in
theorem kc_X6_take : oMc mX6_take := ⟨(oWL_t (n := 987) rfl rfl), (oWL_t (n := 5) rfl rfl), by decide, by decide⟩
set_option maxRecDepth 100000 in
theorem ki_X6_take : oMi mX6_take := ⟨kc_X6_take, (oWL_t (n := 986) rfl rfl)⟩
set_option maxRecDepth 100000 in
theorem kv_X6_take : oMv mX6_take := ⟨ki_X6_take, (oWL_p (n := 54) rfl rfl)⟩
theorem kn_X6_take : oN mX6_take 1 := (by decide +kernel : (parseMethodDescriptor (yX6_take).desc).map (fun d => d.parameters.length) = some 1)
def mX6_is : oM := (yX6_is, cX6_is, 2, some .boolean, 0, 0)
set_option maxRecDepth 100000 in
theorem kc_X6_is : oMc mX6_is := ⟨(oWL_t (n := 1002) rfl rfl), (oWL_t (n := 5) rfl rfl), by decide, by decide⟩
set_option maxRecDepth 100000 in
theorem ki_X6_is : oMi mX6_is := ⟨kc_X6_is, (oWL_t (n := 1001) rfl rfl)⟩
set_option maxRecDepth 100000 in
theorem kv_X6_is : oMv mX6_is := ⟨ki_X6_is, (oWL_p (n := 57) rfl rfl)⟩
theorem kn_X6_is : oN mX6_is 1 := (by decide +kernel : (parseMethodDescriptor (yX6_is).desc).map (fun d => d.parameters.length) = some 1)
def mX6_name : oM := (yX6_name, cX6_name, 4, some .long, 0, 0)
set_option maxRecDepth 100000 in
theorem kc_X6_name : oMc mX6_name := ⟨(oWL_t (n := 982) rfl rfl), (oWL_t (n := 5) rfl rfl), by decide, by decide⟩
set_option maxRecDepth 100000 in
theorem ki_X6_name : oMi mX6_name := ⟨kc_X6_name, (oWL_t (n := 981) rfl rfl)⟩
set_option maxRecDepth 100000 in
theorem kv_X6_name : oMv mX6_name := ⟨ki_X6_name, (oWL_p (n := 53) rfl rfl)⟩
theorem kn_X6_name : oN mX6_name 0 := (by decide +kernel : (parseMethodDescriptor (yX6_name).desc).map (fun d => d.parameters.length) = some 0)
def mX6_number : oM := (yX6_number, cX6_number, 3, some .int, 0, 0)
set_option maxRecDepth 100000 in
theorem kc_X6_number : oMc mX6_number := ⟨(oWL_t (n := 995) rfl rfl), (oWL_t (n := 5) rfl rfl), by decide, by decide⟩
set_option maxRecDepth 100000 in
theorem ki_X6_number : oMi mX6_number := ⟨kc_X6_number, (oWL_t (n := 994) rfl rfl)⟩
set_option maxRecDepth 100000 in
theorem kv_X6_number : oMv mX6_number := ⟨ki_X6_number, (oWL_p (n := 56) rfl rfl)⟩
theorem kn_X6_number : oN mX6_number 0 := (by decide +kernel : (parseMethodDescriptor (yX6_number).desc).map (fun d => d.parameters.length) = some 0)
def mX6_readOne : oM := (yX6_readOne, cX6_readOne, 7, none, 3, 63)
set_option maxRecDepth 100000 in
theorem kc_X6_readOne : oMc mX6_readOne := ⟨(oWL_t (n := 978) rfl rfl), (oWL_t (n := 5) rfl rfl), by decide, by decide⟩
set_option maxRecDepth 100000 in
theorem ki_X6_readOne : oMi mX6_readOne := ⟨kc_X6_readOne, (oWL_t (n := 977) rfl rfl)⟩
set_option maxRecDepth 100000 in
theorem kv_X6_readOne : oMv mX6_readOne := ⟨ki_X6_readOne, (oWL_p (n := 52) rfl rfl)⟩
theorem kn_X6_readOne : oN mX6_readOne 0 := (by decide +kernel : (parseMethodDescriptor (yX6_readOne).desc).map (fun d => d.parameters.length) = some 0)
def mX6_plans : oM := (yX6_plans, cX6_plans, 3, some .int, 4, 89)
set_option maxRecDepth 100000 in
theorem kc_X6_plans : oMc mX6_plans := ⟨(oWL_t (n := 960) rfl rfl), (oWL_t (n := 5) rfl rfl), by decide, by decide⟩
set_option maxRecDepth 100000 in
theorem ki_X6_plans : oMi mX6_plans := ⟨kc_X6_plans, (oWL_t (n := 958) rfl rfl)⟩
set_option maxRecDepth 100000 in
theorem kv_X6_plans : oMv mX6_plans := ⟨ki_X6_plans, (oWL_t (n := 959) rfl rfl)⟩
theorem kn_X6_plans : oN mX6_plans 0 := (by decide +kernel : (parseMethodDescriptor (yX6_plans).desc).map (fun d => d.parameters.length) = some 0)
def mX6_fault : oM := (yX6_fault, cX6_fault, 1, some .int, 0, 0)
set_option maxRecDepth 100000 in
theorem kc_X6_fault : oMc mX6_fault := ⟨(oWL_t (n := 1007) rfl rfl), (oWL_t (n := 5) rfl rfl), by decide, by decide⟩
set_option maxRecDepth 100000 in
theorem ki_X6_fault : oMi mX6_fault := ⟨kc_X6_fault, (oWL_t (n := 1005) rfl rfl)⟩
set_option maxRecDepth 100000 in
theorem kv_X6_fault : oMv mX6_fault := ⟨ki_X6_fault, (oWL_t (n := 1006) rfl rfl)⟩
theorem kn_X6_fault : oN mX6_fault 0 := (by decide +kernel : (parseMethodDescriptor (yX6_fault).desc).map (fun d => d.parameters.length) = some 0)
def mX6_kindOf : oM := (yX6_kindOf, cX6_kindOf, 2, some .int, 0, 0)
set_option maxRecDepth 100000 in
theorem kc_X6_kindOf : oMc mX6_kindOf := ⟨(oWL_t (n := 1015) rfl rfl), (oWL_t (n := 5) rfl rfl), by decide, by decide⟩
set_option maxRecDepth 100000 in
theorem ki_X6_kindOf : oMi mX6_kindOf := ⟨kc_X6_kindOf, (oWL_t (n := 1014) rfl rfl)⟩
set_option maxRecDepth 100000 in
theorem kv_X6_kindOf : oMv mX6_kindOf := ⟨ki_X6_kindOf, (oWL_p (n := 58) rfl rfl)⟩
theorem kn_X6_kindOf : oN mX6_kindOf 1 := (by decide +kernel : (parseMethodDescriptor (yX6_kindOf).desc).map (fun d => d.parameters.length) = some 1)
def mX6_kind : oM := (yX6_kind, cX6_kind, 2, some .int, 2, 46)
set_option maxRecDepth 100000 in
theorem kc_X6_kind : oMc mX6_kind := ⟨(oWL_t (n := 1011) rfl rfl), (oWL_t (n := 5) rfl rfl), by decide, by decide⟩
set_option maxRecDepth 100000 in
theorem ki_X6_kind : oMi mX6_kind := ⟨kc_X6_kind, (oWL_t (n := 1009) rfl rfl)⟩
set_option maxRecDepth 100000 in
theorem kv_X6_kind : oMv mX6_kind := ⟨ki_X6_kind, (oWL_t (n := 1010) rfl rfl)⟩
theorem kn_X6_kind : oN mX6_kind 1 := (by decide +kernel : (parseMethodDescriptor (yX6_kind).desc).map (fun d => d.parameters.length) = some 1)
def mX6_as : oM := (yX6_as, cX6_as, 4, some .int, 2, 46)
set_option maxRecDepth 100000 in
theorem kc_X6_as : oMc mX6_as := ⟨(oWL_t (n := 1019) rfl rfl), (oWL_t (n := 5) rfl rfl), by decide, by decide⟩
set_option maxRecDepth 100000 in
theorem ki_X6_as : oMi mX6_as := ⟨kc_X6_as, (oWL_t (n := 1017) rfl rfl)⟩
set_option maxRecDepth 100000 in
theorem kv_X6_as : oMv mX6_as := ⟨ki_X6_as, (oWL_t (n := 1018) rfl rfl)⟩
theorem kn_X6_as : oN mX6_as 2 := (by decide +kernel : (parseMethodDescriptor (yX6_as).desc).map (fun d => d.parameters.length) = some 2)
def mX6_began : oM := (yX6_began, cX6_began, 2, none, 0, 0)
set_option maxRecDepth 100000 in
theorem kc_X6_began : oMc mX6_began := ⟨(oWL_t (n := 1033) rfl rfl), (oWL_t (n := 5) rfl rfl), by decide, by decide⟩
set_option maxRecDepth 100000 in
theorem ki_X6_began : oMi mX6_began := ⟨kc_X6_began, (oWL_t (n := 1032) rfl rfl)⟩
set_option maxRecDepth 100000 in
theorem kv_X6_began : oMv mX6_began := ⟨ki_X6_began, (oWL_p (n := 60) rfl rfl)⟩
theorem kn_X6_began : oN mX6_began 1 := (by decide +kernel : (parseMethodDescriptor (yX6_began).desc).map (fun d => d.parameters.length) = some 1)
def mX6_weight : oM := (yX6_weight, cX6_weight, 5, some .int, 1, 21)
set_option maxRecDepth 100000 in
theorem kc_X6_weight : oMc mX6_weight := ⟨(oWL_t (n := 1029) rfl rfl), (oWL_t (n := 5) rfl rfl), by decide, by decide⟩
set_option maxRecDepth 100000 in
theorem ki_X6_weight : oMi mX6_weight := ⟨kc_X6_weight, (oWL_t (n := 1028) rfl rfl)⟩
set_option maxRecDepth 100000 in
theorem kv_X6_weight : oMv mX6_weight := ⟨ki_X6_weight, (oWL_p (n := 59) rfl rfl)⟩
theorem kn_X6_weight : oN mX6_weight 1 := (by decide +kernel : (parseMethodDescriptor (yX6_weight).desc).map (fun d => d.parameters.length) = some 1)
def mX6_marked : oM := (yX6_marked, cX6_marked, 4, some .int, 2, 45)
set_option maxRecDepth 100000 in
theorem kc_X6_marked : oMc mX6_marked := ⟨(oWL_t (n := 1037) rfl rfl), (oWL_t (n := 5) rfl rfl), by decide, by decide⟩
set_option maxRecDepth 100000 in
theorem ki_X6_marked : oMi mX6_marked := ⟨kc_X6_marked, (oWL_t (n := 1036) rfl rfl)⟩
set_option maxRecDepth 100000 in
theorem kv_X6_marked : oMv mX6_marked := ⟨ki_X6_marked, (oWL_p (n := 61) rfl rfl)⟩
theorem kn_X6_marked : oN mX6_marked 1 := (by decide +kernel : (parseMethodDescriptor (yX6_marked).desc).map (fun d => d.parameters.length) = some 1)
def mX6_ask : oM := (yX6_ask, cX6_ask, 3, some .int, 3, 68)
set_option maxRecDepth 100000 in
theorem kc_X6_ask : oMc mX6_ask := ⟨(oWL_t (n := 1025) rfl rfl), (oWL_t (n := 5) rfl rfl), by decide, by decide⟩
set_option maxRecDepth 100000 in
theorem ki_X6_ask : oMi mX6_ask := ⟨kc_X6_ask, (oWL_t (n := 1023) rfl rfl)⟩
set_option maxRecDepth 100000 in
theorem kv_X6_ask : oMv mX6_ask := ⟨ki_X6_ask, (oWL_t (n := 1024) rfl rfl)⟩
theorem kn_X6_ask : oN mX6_ask 2 := (by decide +kernel : (parseMethodDescriptor (yX6_ask).desc).map (fun d => d.parameters.length) = some 2)
def mX6_trace : oM := (yX6_trace, cX6_trace, 2, some .int, 1, 25)
set_option maxRecDepth 100000 in
theorem kc_X6_trace : oMc mX6_trace := ⟨(oWL_t (n := 1041) rfl rfl), (oWL_t (n := 5) rfl rfl), by decide, by decide⟩
set_option maxRecDepth 100000 in
theorem ki_X6_trace : oMi mX6_trace := ⟨kc_X6_trace, (oWL_t (n := 1039) rfl rfl)⟩
set_option maxRecDepth 100000 in
theorem kv_X6_trace : oMv mX6_trace := ⟨ki_X6_trace, (oWL_t (n := 1040) rfl rfl)⟩
theorem kn_X6_trace : oN mX6_trace 1 := (by decide +kernel : (parseMethodDescriptor (yX6_trace).desc).map (fun d => d.parameters.length) = some 1)
def mX6_count : oM := (yX6_count, cX6_count, 2, some .long, 3, 65)
set_option maxRecDepth 100000 in
theorem kc_X6_count : oMc mX6_count := ⟨(oWL_t (n := 1045) rfl rfl), (oWL_t (n := 5) rfl rfl), by decide, by decide⟩
set_option maxRecDepth 100000 in
theorem ki_X6_count : oMi mX6_count := ⟨kc_X6_count, (oWL_t (n := 1043) rfl rfl)⟩
set_option maxRecDepth 100000 in
theorem kv_X6_count : oMv mX6_count := ⟨ki_X6_count, (oWL_t (n := 1044) rfl rfl)⟩
theorem kn_X6_count : oN mX6_count 1 := (by decide +kernel : (parseMethodDescriptor (yX6_count).desc).map (fun d => d.parameters.length) = some 1)
def mJ6_bitCount_0f7a4 : oM := (yJ6_bitCount_0f7a4, cJ6_bitCount_0f7a4, 1, some .int, 0, 0)
set_option maxRecDepth 100000 in
theorem kc_J6_bitCount_0f7a4 : oMc mJ6_bitCount_0f7a4 := ⟨(oWL_t (n := 328) rfl rfl), (oWL_t (n := 9) rfl rfl), by decide, by decide⟩
set_option maxRecDepth 100000 in
theorem ks_J6_bitCount_0f7a4 : oMs mJ6_bitCount_0f7a4 := ⟨kc_J6_bitCount_0f7a4, (oWL_t (n := 327) rfl rfl)⟩
theorem kn_J6_bitCount_0f7a4 : oN mJ6_bitCount_0f7a4 1 := (by decide +kernel : (parseMethodDescriptor (yJ6_bitCount_0f7a4).desc).map (fun d => d.parameters.length) = some 1)
def mJ9_floorDiv_7cf53 : oM := (yJ9_floorDiv_7cf53, cJ9_floorDiv_7cf53, 3, some .int, 0, 0)
set_option maxRecDepth 100000 in
theorem kc_J9_floorDiv_7cf53 : oMc mJ9_floorDiv_7cf53 := ⟨(oWL_t (n := 446) rfl rfl), (oWL_t (n := 8) rfl rfl), by decide, by decide⟩
set_option maxRecDepth 100000 in
theorem ks_J9_floorDiv_7cf53 : oMs mJ9_floorDiv_7cf53 := ⟨kc_J9_floorDiv_7cf53, (oWL_t (n := 445) rfl rfl)⟩
theorem kn_J9_floorDiv_7cf53 : oN mJ9_floorDiv_7cf53 2 := (by decide +kernel : (parseMethodDescriptor (yJ9_floorDiv_7cf53).desc).map (fun d => d.parameters.length) = some 2)
def mJ9_abs_0f7a4 : oM := (yJ9_abs_0f7a4, cJ9_abs_0f7a4, 1, some .int, 0, 0)
set_option maxRecDepth 100000 in
theorem kc_J9_abs_0f7a4 : oMc mJ9_abs_0f7a4 := ⟨(oWL_t (n := 378) rfl rfl), (oWL_t (n := 8) rfl rfl), by decide, by decide⟩
set_option maxRecDepth 100000 in
theorem ks_J9_abs_0f7a4 : oMs mJ9_abs_0f7a4 := ⟨kc_J9_abs_0f7a4, (oWL_t (n := 377) rfl rfl)⟩
theorem kn_J9_abs_0f7a4 : oN mJ9_abs_0f7a4 1 := (by decide +kernel : (parseMethodDescriptor (yJ9_abs_0f7a4).desc).map (fun d => d.parameters.length) = some 1)
def mJ9_max_7cf53 : oM := (yJ9_max_7cf53, cJ9_max_7cf53, 2, some .int, 0, 0)
set_option maxRecDepth 100000 in
theorem kc_J9_max_7cf53 : oMc mJ9_max_7cf53 := ⟨(oWL_t (n := 277) rfl rfl), (oWL_t (n := 8) rfl rfl), by decide, by decide⟩
set_option maxRecDepth 100000 in
theorem ks_J9_max_7cf53 : oMs mJ9_max_7cf53 := ⟨kc_J9_max_7cf53, (oWL_t (n := 276) rfl rfl)⟩
theorem kn_J9_max_7cf53 : oN mJ9_max_7cf53 2 := (by decide +kernel : (parseMethodDescriptor (yJ9_max_7cf53).desc).map (fun d => d.parameters.length) = some 2)
def mJ9_min_7cf53 : oM := (yJ9_min_7cf53, cJ9_min_7cf53, 2, some .int, 0, 0)
set_option maxRecDepth 100000 in
theorem kc_J9_min_7cf53 : oMc mJ9_min_7cf53 := ⟨(oWL_t (n := 312) rfl rfl), (oWL_t (n := 8) rfl rfl), by decide, by decide⟩
set_option maxRecDepth 100000 in
theorem ks_J9_min_7cf53 : oMs mJ9_min_7cf53 := ⟨kc_J9_min_7cf53, (oWL_t (n := 311) rfl rfl)⟩
theorem kn_J9_min_7cf53 : oN mJ9_min_7cf53 2 := (by decide +kernel : (parseMethodDescriptor (yJ9_min_7cf53).desc).map (fun d => d.parameters.length) = some 2)
def mJ0_length_8abf5 : oM := (yJ0_length_8abf5, cJ0_length_8abf5, 1, some .int, 1, 20)
set_option maxRecDepth 100000 in
theorem kc_J0_length_8abf5 : oMc mJ0_length_8abf5 := ⟨(oWL_t (n := 495) rfl rfl), (oWL_t (n := 10) rfl rfl), by decide, by decide⟩
set_option maxRecDepth 100000 in
theorem ki_J0_length_8abf5 : oMi mJ0_length_8abf5 := ⟨kc_J0_length_8abf5, (oWL_t (n := 493) rfl rfl)⟩
set_option maxRecDepth 100000 in
theorem kv_J0_length_8abf5 : oMv mJ0_length_8abf5 := ⟨ki_J0_length_8abf5, (oWL_t (n := 494) rfl rfl)⟩
theorem kn_J0_length_8abf5 : oN mJ0_length_8abf5 0 := (by decide +kernel : (parseMethodDescriptor (yJ0_length_8abf5).desc).map (fun d => d.parameters.length) = some 0)
def mJ0_charAt_5068e : oM := (yJ0_charAt_5068e, cJ0_charAt_5068e, 2, some .char, 4, 85)
set_option maxRecDepth 100000 in
theorem kc_J0_charAt_5068e : oMc mJ0_charAt_5068e := ⟨(oWL_t (n := 505) rfl rfl), (oWL_t (n := 10) rfl rfl), by decide, by decide⟩
set_option maxRecDepth 100000 in
theorem ki_J0_charAt_5068e : oMi mJ0_charAt_5068e := ⟨kc_J0_charAt_5068e, (oWL_t (n := 503) rfl rfl)⟩
set_option maxRecDepth 100000 in
theorem kv_J0_charAt_5068e : oMv mJ0_charAt_5068e := ⟨ki_J0_charAt_5068e, (oWL_t (n := 504) rfl rfl)⟩
theorem kn_J0_charAt_5068e : oN mJ0_charAt_5068e 1 := (by decide +kernel : (parseMethodDescriptor (yJ0_charAt_5068e).desc).map (fun d => d.parameters.length) = some 1)
def mJ0_coder_7d493 : oM := (yJ0_coder_7d493, cJ0_coder_7d493, 1, some .byte, 0, 0)
set_option maxRecDepth 100000 in
theorem kc_J0_coder_7d493 : oMc mJ0_coder_7d493 := ⟨(oWL_t (n := 499) rfl rfl), (oWL_t (n := 10) rfl rfl), by decide, by decide⟩
set_option maxRecDepth 100000 in
theorem ki_J0_coder_7d493 : oMi mJ0_coder_7d493 := ⟨kc_J0_coder_7d493, (oWL_t (n := 497) rfl rfl)⟩
set_option maxRecDepth 100000 in
theorem kv_J0_coder_7d493 : oMv mJ0_coder_7d493 := ⟨ki_J0_coder_7d493, (oWL_t (n := 498) rfl rfl)⟩
theorem kn_J0_coder_7d493 : oN mJ0_coder_7d493 0 := (by decide +kernel : (parseMethodDescriptor (yJ0_coder_7d493).desc).map (fun d => d.parameters.length) = some 0)
def mJ0_isLatin1_aae02 : oM := (yJ0_isLatin1_aae02, cJ0_isLatin1_aae02, 1, some .boolean, 0, 0)
set_option maxRecDepth 100000 in
theorem kc_J0_isLatin1_aae02 : oMc mJ0_isLatin1_aae02 := ⟨(oWL_t (n := 509) rfl rfl), (oWL_t (n := 10) rfl rfl), by decide, by decide⟩
set_option maxRecDepth 100000 in
theorem ki_J0_isLatin1_aae02 : oMi mJ0_isLatin1_aae02 := ⟨kc_J0_isLatin1_aae02, (oWL_t (n := 507) rfl rfl)⟩
set_option maxRecDepth 100000 in
theorem kv_J0_isLatin1_aae02 : oMv mJ0_isLatin1_aae02 := ⟨ki_J0_isLatin1_aae02, (oWL_t (n := 508) rfl rfl)⟩
theorem kn_J0_isLatin1_aae02 : oN mJ0_isLatin1_aae02 0 := (by decide +kernel : (parseMethodDescriptor (yJ0_isLatin1_aae02).desc).map (fun d => d.parameters.length) = some 0)
def mJ0_checkIndex_df160 : oM := (yJ0_checkIndex_df160, cJ0_checkIndex_df160, 2, none, 1, 22)
set_option maxRecDepth 100000 in
theorem kc_J0_checkIndex_df160 : oMc mJ0_checkIndex_df160 := ⟨(oWL_t (n := 515) rfl rfl), (oWL_t (n := 10) rfl rfl), by decide, by decide⟩
set_option maxRecDepth 100000 in
theorem ks_J0_checkIndex_df160 : oMs mJ0_checkIndex_df160 := ⟨kc_J0_checkIndex_df160, (oWL_t (n := 514) rfl rfl)⟩
theorem kn_J0_checkIndex_df160 : oN mJ0_checkIndex_df160 2 := (by decide +kernel : (parseMethodDescriptor (yJ0_checkIndex_df160).desc).map (fun d => d.parameters.length) = some 2)
def mJ1_charAt_3b067 : oM := (yJ1_charAt_3b067, cJ1_charAt_3b067, 2, some .char, 2, 43)
set_option maxRecDepth 100000 in
theorem kc_J1_charAt_3b067 : oMc mJ1_charAt_3b067 := ⟨(oWL_t (n := 512) rfl rfl), (oWL_t (n := 11) rfl rfl), by decide, by decide⟩
set_option maxRecDepth 100000 in
theorem ks_J1_charAt_3b067 : oMs mJ1_charAt_3b067 := ⟨kc_J1_charAt_3b067, (oWL_t (n := 511) rfl rfl)⟩
theorem kn_J1_charAt_3b067 : oN mJ1_charAt_3b067 2 := (by decide +kernel : (parseMethodDescriptor (yJ1_charAt_3b067).desc).map (fun d => d.parameters.length) = some 2)
def mJ3_checkIndex_8e157 : oM := (yJ3_checkIndex_8e157, cJ3_checkIndex_8e157, 3, some .int, 0, 0)
set_option maxRecDepth 100000 in
theorem kc_J3_checkIndex_8e157 : oMc mJ3_checkIndex_8e157 := ⟨(oWL_t (n := 520) rfl rfl), (oWL_t (n := 12) rfl rfl), by decide, by decide⟩
set_option maxRecDepth 100000 in
theorem ks_J3_checkIndex_8e157 : oMs mJ3_checkIndex_8e157 := ⟨kc_J3_checkIndex_8e157, (oWL_t (n := 519) rfl rfl)⟩
theorem kn_J3_checkIndex_8e157 : oN mJ3_checkIndex_8e157 3 := (by decide +kernel : (parseMethodDescriptor (yJ3_checkIndex_8e157).desc).map (fun d => d.parameters.length) = some 3)
set_option maxRecDepth 100000 in
theorem fl_X0_9 : oFL RX0 9 0 0 (.array .int) := ⟨by decide, by decide, rfl, (oWL_t (n := 105) rfl rfl)⟩
set_option maxRecDepth 100000 in
theorem fl_X0_15 : oFL RX0 15 0 1 .int := ⟨by decide, by decide, rfl, (oWL_t (n := 106) rfl rfl)⟩
set_option maxRecDepth 100000 in
theorem fl_X0_52 : oFL RX0 52 1 8 .int := ⟨by decide, by decide, rfl, (oWL_t (n := 205) rfl rfl)⟩
set_option maxRecDepth 100000 in
theorem fl_X0_55 : oFL RX0 55 1 9 .int := ⟨by decide, by decide, rfl, (oWL_t (n := 208) rfl rfl)⟩
set_option maxRecDepth 100000 in
theorem fl_X0_58 : oFL RX0 58 1 10 .int := ⟨by decide, by decide, rfl, (oWL_t (n := 212) rfl rfl)⟩
set_option maxRecDepth 100000 in
theorem fl_X0_61 : oFL RX0 61 1 4 .int := ⟨by decide, by decide, rfl, (oWL_t (n := 197) rfl rfl)⟩
set_option maxRecDepth 100000 in
theorem fl_X0_64 : oFL RX0 64 1 2 .int := ⟨by decide, by decide, rfl, (oWL_t (n := 190) rfl rfl)⟩
set_option maxRecDepth 100000 in
theorem fl_X1_12 : oFL RX1 12 1 3 (.object "OilRound$Plan") := ⟨by decide, by decide, rfl, (oWL_t (n := 192) rfl rfl)⟩
set_option maxRecDepth 100000 in
theorem fl_X1_18 : oFL RX1 18 1 4 .int := ⟨by decide, by decide, rfl, (oWL_t (n := 195) rfl rfl)⟩
set_option maxRecDepth 100000 in
theorem fl_X1_22 : oFL RX1 22 1 5 .int := ⟨by decide, by decide, rfl, (oWL_t (n := 198) rfl rfl)⟩
set_option maxRecDepth 100000 in
theorem fl_X1_25 : oFL RX1 25 1 6 .int := ⟨by decide, by decide, rfl, (oWL_t (n := 200) rfl rfl)⟩
set_option maxRecDepth 100000 in
theorem fl_X1_28 : oFL RX1 28 1 7 .int := ⟨by decide, by decide, rfl, (oWL_t (n := 202) rfl rfl)⟩
set_option maxRecDepth 100000 in
theorem fl_X1_31 : oFL RX1 31 1 10 .int := ⟨by decide, by decide, rfl, (oWL_t (n := 210) rfl rfl)⟩
set_option maxRecDepth 100000 in
theorem fl_X1_34 : oFL RX1 34 1 11 .int := ⟨by decide, by decide, rfl, (oWL_t (n := 213) rfl rfl)⟩
set_option maxRecDepth 100000 in
theorem fl_X1_37 : oFL RX1 37 1 12 .boolean := ⟨by decide, by decide, rfl, (oWL_t (n := 215) rfl rfl)⟩
set_option maxRecDepth 100000 in
theorem fl_X1_41 : oFL RX1 41 1 13 .int := ⟨by decide, by decide, rfl, (oWL_t (n := 216) rfl rfl)⟩
set_option maxRecDepth 100000 in
theorem fl_X1_44 : oFL RX1 44 1 14 .int := ⟨by decide, by decide, rfl, (oWL_t (n := 218) rfl rfl)⟩
set_option maxRecDepth 100000 in
theorem fl_X1_47 : oFL RX1 47 1 0 .int := ⟨by decide, by decide, rfl, (oWL_t (n := 185) rfl rfl)⟩
set_option maxRecDepth 100000 in
theorem fl_X1_50 : oFL RX1 50 1 1 .int := ⟨by decide, by decide, rfl, (oWL_t (n := 187) rfl rfl)⟩
set_option maxRecDepth 100000 in
theorem fl_X1_53 : oFL RX1 53 1 2 .int := ⟨by decide, by decide, rfl, (oWL_t (n := 189) rfl rfl)⟩
set_option maxRecDepth 100000 in
theorem fl_X1_56 : oFL RX1 56 1 8 .int := ⟨by decide, by decide, rfl, (oWL_t (n := 204) rfl rfl)⟩
set_option maxRecDepth 100000 in
theorem fl_X1_59 : oFL RX1 59 1 9 .int := ⟨by decide, by decide, rfl, (oWL_t (n := 207) rfl rfl)⟩
set_option maxRecDepth 100000 in
theorem fl_X2_9 : oFL RX2 9 2 0 .int := ⟨by decide, by decide, rfl, (oWL_t (n := 175) rfl rfl)⟩
set_option maxRecDepth 100000 in
theorem fl_X2_15 : oFL RX2 15 2 1 .int := ⟨by decide, by decide, rfl, (oWL_t (n := 176) rfl rfl)⟩
set_option maxRecDepth 100000 in
theorem fl_X2_18 : oFL RX2 18 2 2 .int := ⟨by decide, by decide, rfl, (oWL_t (n := 177) rfl rfl)⟩
set_option maxRecDepth 100000 in
theorem fl_X3_11 : oFL RX3 11 3 0 (.array .byte) := ⟨by decide, by decide, rfl, (oWL_t (n := 59) rfl rfl)⟩
set_option maxRecDepth 100000 in
theorem fl_X3_15 : oFL RX3 15 3 1 .int := ⟨by decide, by decide, rfl, (oWL_t (n := 60) rfl rfl)⟩
set_option maxRecDepth 100000 in
theorem fl_X3_19 : oFL RX3 19 3 2 .int := ⟨by decide, by decide, rfl, (oWL_t (n := 62) rfl rfl)⟩
set_option maxRecDepth 100000 in
theorem fl_X3_22 : oFL RX3 22 3 3 .int := ⟨by decide, by decide, rfl, (oWL_t (n := 64) rfl rfl)⟩
set_option maxRecDepth 100000 in
theorem fl_X3_25 : oFL RX3 25 3 4 .int := ⟨by decide, by decide, rfl, (oWL_t (n := 65) rfl rfl)⟩
set_option maxRecDepth 100000 in
theorem fl_X3_28 : oFL RX3 28 3 5 .int := ⟨by decide, by decide, rfl, (oWL_t (n := 66) rfl rfl)⟩
set_option maxRecDepth 100000 in
theorem fl_X3_31 : oFL RX3 31 3 6 .int := ⟨by decide, by decide, rfl, (oWL_t (n := 67) rfl rfl)⟩
set_option maxRecDepth 100000 in
theorem fl_X3_34 : oFL RX3 34 3 7 .int := ⟨by decide, by decide, rfl, (oWL_t (n := 68) rfl rfl)⟩
set_option maxRecDepth 100000 in
theorem fl_X3_37 : oFL RX3 37 3 8 (.object "OilRound$House") := ⟨by decide, by decide, rfl, (oWL_t (n := 69) rfl rfl)⟩
set_option maxRecDepth 100000 in
theorem fl_X3_41 : oFL RX3 41 3 9 .int := ⟨by decide, by decide, rfl, (oWL_t (n := 70) rfl rfl)⟩
set_option maxRecDepth 100000 in
theorem fl_X3_44 : oFL RX3 44 3 10 .int := ⟨by decide, by decide, rfl, (oWL_t (n := 71) rfl rfl)⟩
set_option maxRecDepth 100000 in
theorem fl_X3_47 : oFL RX3 47 3 11 .int := ⟨by decide, by decide, rfl, (oWL_t (n := 72) rfl rfl)⟩
set_option maxRecDepth 100000 in
theorem fl_X3_63 : oFL RX3 63 1 3 (.object "OilRound$Plan") := ⟨by decide, by decide, rfl, (oWL_t (n := 193) rfl rfl)⟩
set_option maxRecDepth 100000 in
theorem fl_X4_9 : oFL RX4 9 4 0 (.array .int) := ⟨by decide, by decide, rfl, (oWL_t (n := 30) rfl rfl)⟩
set_option maxRecDepth 100000 in
theorem fl_X4_15 : oFL RX4 15 4 1 (.array .int) := ⟨by decide, by decide, rfl, (oWL_t (n := 31) rfl rfl)⟩
set_option maxRecDepth 100000 in
theorem fl_X4_18 : oFL RX4 18 4 2 (.array .int) := ⟨by decide, by decide, rfl, (oWL_t (n := 32) rfl rfl)⟩
set_option maxRecDepth 100000 in
theorem fl_X4_21 : oFL RX4 21 4 3 (.array .int) := ⟨by decide, by decide, rfl, (oWL_t (n := 33) rfl rfl)⟩
set_option maxRecDepth 100000 in
theorem fl_X4_24 : oFL RX4 24 4 4 (.array .int) := ⟨by decide, by decide, rfl, (oWL_t (n := 34) rfl rfl)⟩
set_option maxRecDepth 100000 in
theorem fl_X4_27 : oFL RX4 27 4 5 .int := ⟨by decide, by decide, rfl, (oWL_t (n := 35) rfl rfl)⟩
set_option maxRecDepth 100000 in
theorem fl_X4_31 : oFL RX4 31 4 6 .int := ⟨by decide, by decide, rfl, (oWL_t (n := 36) rfl rfl)⟩
set_option maxRecDepth 100000 in
theorem fl_X4_54 : oFL RX4 54 1 0 .int := ⟨by decide, by decide, rfl, (oWL_t (n := 186) rfl rfl)⟩
set_option maxRecDepth 100000 in
theorem fl_X4_59 : oFL RX4 59 1 1 .int := ⟨by decide, by decide, rfl, (oWL_t (n := 188) rfl rfl)⟩
set_option maxRecDepth 100000 in
theorem fl_X5_11 : oFL RX5 11 5 0 (.array (.object "OilRound$House")) := ⟨by decide, by decide, rfl, (oWL_t (n := 112) rfl rfl)⟩
set_option maxRecDepth 100000 in
theorem fl_X5_18 : oFL RX5 18 5 1 (.object "OilRound$Route") := ⟨by decide, by decide, rfl, (oWL_t (n := 113) rfl rfl)⟩
set_option maxRecDepth 100000 in
theorem fl_X5_25 : oFL RX5 25 5 2 (.object "OilRound$PlanText") := ⟨by decide, by decide, rfl, (oWL_t (n := 114) rfl rfl)⟩
set_option maxRecDepth 100000 in
theorem fl_X5_32 : oFL RX5 32 5 3 (.object "OilRound$Asks") := ⟨by decide, by decide, rfl, (oWL_t (n := 115) rfl rfl)⟩
set_option maxRecDepth 100000 in
theorem fl_X5_36 : oFL RX5 36 5 4 .int := ⟨by decide, by decide, rfl, (oWL_t (n := 116) rfl rfl)⟩
set_option maxRecDepth 100000 in
theorem fl_X5_40 : oFL RX5 40 5 5 .int := ⟨by decide, by decide, rfl, (oWL_t (n := 117) rfl rfl)⟩
set_option maxRecDepth 100000 in
theorem fl_X5_43 : oFL RX5 43 5 6 .int := ⟨by decide, by decide, rfl, (oWL_t (n := 118) rfl rfl)⟩
set_option maxRecDepth 100000 in
theorem fl_X5_46 : oFL RX5 46 5 7 .int := ⟨by decide, by decide, rfl, (oWL_t (n := 119) rfl rfl)⟩
set_option maxRecDepth 100000 in
theorem fl_X5_49 : oFL RX5 49 5 8 .int := ⟨by decide, by decide, rfl, (oWL_t (n := 120) rfl rfl)⟩
set_option maxRecDepth 100000 in
theorem fl_X5_52 : oFL RX5 52 5 9 .int := ⟨by decide, by decide, rfl, (oWL_t (n := 121) rfl rfl)⟩
set_option maxRecDepth 100000 in
theorem fl_X5_55 : oFL RX5 55 5 10 .int := ⟨by decide, by decide, rfl, (oWL_t (n := 122) rfl rfl)⟩
set_option maxRecDepth 100000 in
theorem fl_X5_58 : oFL RX5 58 5 11 .long := ⟨by decide, by decide, rfl, (oWL_t (n := 123) rfl rfl)⟩
set_option maxRecDepth 100000 in
theorem fl_X5_62 : oFL RX5 62 5 12 .long := ⟨by decide, by decide, rfl, (oWL_t (n := 124) rfl rfl)⟩
set_option maxRecDepth 100000 in
theorem fl_X5_65 : oFL RX5 65 5 13 .long := ⟨by decide, by decide, rfl, (oWL_t (n := 125) rfl rfl)⟩
set_option maxRecDepth 100000 in
theorem fl_X5_81 : oFL RX5 81 1 10 .int := ⟨by decide, by decide, rfl, (oWL_t (n := 211) rfl rfl)⟩
set_option maxRecDepth 100000 in
theorem fl_X5_84 : oFL RX5 84 1 13 .int := ⟨by decide, by decide, rfl, (oWL_t (n := 217) rfl rfl)⟩
set_option maxRecDepth 100000 in
theorem fl_X5_88 : oFL RX5 88 1 4 .int := ⟨by decide, by decide, rfl, (oWL_t (n := 196) rfl rfl)⟩
set_option maxRecDepth 100000 in
theorem fl_X5_91 : oFL RX5 91 1 5 .int := ⟨by decide, by decide, rfl, (oWL_t (n := 199) rfl rfl)⟩
set_option maxRecDepth 100000 in
theorem fl_X5_94 : oFL RX5 94 1 6 .int := ⟨by decide, by decide, rfl, (oWL_t (n := 201) rfl rfl)⟩
set_option maxRecDepth 100000 in
theorem fl_X5_97 : oFL RX5 97 1 7 .int := ⟨by decide, by decide, rfl, (oWL_t (n := 203) rfl rfl)⟩
set_option maxRecDepth 100000 in
theorem fl_X5_112 : oFL RX5 112 1 8 .int := ⟨by decide, by decide, rfl, (oWL_t (n := 206) rfl rfl)⟩
set_option maxRecDepth 100000 in
theorem fl_X5_115 : oFL RX5 115 1 9 .int := ⟨by decide, by decide, rfl, (oWL_t (n := 209) rfl rfl)⟩
set_option maxRecDepth 100000 in
theorem fl_X5_122 : oFL RX5 122 1 11 .int := ⟨by decide, by decide, rfl, (oWL_t (n := 214) rfl rfl)⟩
set_option maxRecDepth 100000 in
theorem fl_X5_125 : oFL RX5 125 1 14 .int := ⟨by decide, by decide, rfl, (oWL_t (n := 219) rfl rfl)⟩
set_option maxRecDepth 100000 in
theorem fl_X5_161 : oFL RX5 161 1 2 .int := ⟨by decide, by decide, rfl, (oWL_t (n := 191) rfl rfl)⟩
set_option maxRecDepth 100000 in
theorem fl_X5_164 : oFL RX5 164 1 3 (.object "OilRound$Plan") := ⟨by decide, by decide, rfl, (oWL_t (n := 194) rfl rfl)⟩
set_option maxRecDepth 100000 in
theorem fl_X5_188 : oFL RX5 188 3 2 .int := ⟨by decide, by decide, rfl, (oWL_t (n := 63) rfl rfl)⟩
set_option maxRecDepth 100000 in
theorem fl_X5_211 : oFL RX5 211 3 1 .int := ⟨by decide, by decide, rfl, (oWL_t (n := 61) rfl rfl)⟩
set_option maxRecDepth 100000 in
theorem fl_X6_7 : oFL RX6 7 6 2 (.array .int) := ⟨by decide, by decide, rfl, (oWL_t (n := 677) rfl rfl)⟩
set_option maxRecDepth 100000 in
theorem fl_X6_13 : oFL RX6 13 6 3 (.array .int) := ⟨by decide, by decide, rfl, (oWL_t (n := 678) rfl rfl)⟩
set_option maxRecDepth 100000 in
theorem fl_X6_16 : oFL RX6 16 6 4 (.array .int) := ⟨by decide, by decide, rfl, (oWL_t (n := 679) rfl rfl)⟩
set_option maxRecDepth 100000 in
theorem fl_X6_19 : oFL RX6 19 6 5 (.array .int) := ⟨by decide, by decide, rfl, (oWL_t (n := 680) rfl rfl)⟩
set_option maxRecDepth 100000 in
theorem fl_X6_22 : oFL RX6 22 6 6 (.array .int) := ⟨by decide, by decide, rfl, (oWL_t (n := 681) rfl rfl)⟩
set_option maxRecDepth 100000 in
theorem fl_X6_25 : oFL RX6 25 6 7 (.array .int) := ⟨by decide, by decide, rfl, (oWL_t (n := 682) rfl rfl)⟩
set_option maxRecDepth 100000 in
theorem fl_X6_28 : oFL RX6 28 6 8 (.array .int) := ⟨by decide, by decide, rfl, (oWL_t (n := 683) rfl rfl)⟩
set_option maxRecDepth 100000 in
theorem fl_X6_31 : oFL RX6 31 6 9 (.array .int) := ⟨by decide, by decide, rfl, (oWL_t (n := 684) rfl rfl)⟩
set_option maxRecDepth 100000 in
theorem fl_X6_34 : oFL RX6 34 6 10 (.array .boolean) := ⟨by decide, by decide, rfl, (oWL_t (n := 685) rfl rfl)⟩
set_option maxRecDepth 100000 in
theorem fl_X6_38 : oFL RX6 38 6 11 (.array .int) := ⟨by decide, by decide, rfl, (oWL_t (n := 686) rfl rfl)⟩
set_option maxRecDepth 100000 in
theorem fl_X6_41 : oFL RX6 41 6 12 (.array .int) := ⟨by decide, by decide, rfl, (oWL_t (n := 687) rfl rfl)⟩
set_option maxRecDepth 100000 in
theorem fl_X6_44 : oFL RX6 44 6 13 (.array .int) := ⟨by decide, by decide, rfl, (oWL_t (n := 688) rfl rfl)⟩
set_option maxRecDepth 100000 in
theorem fl_X6_47 : oFL RX6 47 6 14 (.array .int) := ⟨by decide, by decide, rfl, (oWL_t (n := 689) rfl rfl)⟩
set_option maxRecDepth 100000 in
theorem fl_X6_50 : oFL RX6 50 6 15 (.array .int) := ⟨by decide, by decide, rfl, (oWL_t (n := 690) rfl rfl)⟩
set_option maxRecDepth 100000 in
theorem fl_X6_53 : oFL RX6 53 6 17 .int := ⟨by decide, by decide, rfl, (oWL_t (n := 692) rfl rfl)⟩
set_option maxRecDepth 100000 in
theorem fl_X6_57 : oFL RX6 57 6 18 .int := ⟨by decide, by decide, rfl, (oWL_t (n := 693) rfl rfl)⟩
set_option maxRecDepth 100000 in
theorem fl_X6_60 : oFL RX6 60 6 20 .int := ⟨by decide, by decide, rfl, (oWL_t (n := 695) rfl rfl)⟩
set_option maxRecDepth 100000 in
theorem fl_X6_63 : oFL RX6 63 6 21 .int := ⟨by decide, by decide, rfl, (oWL_t (n := 696) rfl rfl)⟩
set_option maxRecDepth 100000 in
theorem fl_X6_66 : oFL RX6 66 6 25 (.array .int) := ⟨by decide, by decide, rfl, (oWL_t (n := 700) rfl rfl)⟩
set_option maxRecDepth 100000 in
theorem fl_X6_69 : oFL RX6 69 6 27 (.array .int) := ⟨by decide, by decide, rfl, (oWL_t (n := 702) rfl rfl)⟩
set_option maxRecDepth 100000 in
theorem fl_X6_72 : oFL RX6 72 6 28 (.array .int) := ⟨by decide, by decide, rfl, (oWL_t (n := 703) rfl rfl)⟩
set_option maxRecDepth 100000 in
theorem fl_X6_75 : oFL RX6 75 6 39 (.array .int) := ⟨by decide, by decide, rfl, (oWL_t (n := 714) rfl rfl)⟩
set_option maxRecDepth 100000 in
theorem fl_X6_78 : oFL RX6 78 6 40 (.array .int) := ⟨by decide, by decide, rfl, (oWL_t (n := 715) rfl rfl)⟩
set_option maxRecDepth 100000 in
theorem fl_X6_81 : oFL RX6 81 6 41 (.array .int) := ⟨by decide, by decide, rfl, (oWL_t (n := 716) rfl rfl)⟩
set_option maxRecDepth 100000 in
theorem fl_X6_84 : oFL RX6 84 6 42 (.array .int) := ⟨by decide, by decide, rfl, (oWL_t (n := 717) rfl rfl)⟩
set_option maxRecDepth 100000 in
theorem fl_X6_87 : oFL RX6 87 6 43 (.array .int) := ⟨by decide, by decide, rfl, (oWL_t (n := 718) rfl rfl)⟩
set_option maxRecDepth 100000 in
theorem fl_X6_90 : oFL RX6 90 6 0 .int := ⟨by decide, by decide, rfl, (oWL_t (n := 675) rfl rfl)⟩
set_option maxRecDepth 100000 in
theorem fl_X6_93 : oFL RX6 93 6 1 .int := ⟨by decide, by decide, rfl, (oWL_t (n := 676) rfl rfl)⟩
set_option maxRecDepth 100000 in
theorem fl_X6_115 : oFL RX6 115 6 16 .int := ⟨by decide, by decide, rfl, (oWL_t (n := 691) rfl rfl)⟩
set_option maxRecDepth 100000 in
theorem fl_X6_134 : oFL RX6 134 6 19 .int := ⟨by decide, by decide, rfl, (oWL_t (n := 694) rfl rfl)⟩
set_option maxRecDepth 100000 in
theorem fl_X6_139 : oFL RX6 139 6 22 .long := ⟨by decide, by decide, rfl, (oWL_t (n := 697) rfl rfl)⟩
set_option maxRecDepth 100000 in
theorem fl_X6_150 : oFL RX6 150 6 26 .int := ⟨by decide, by decide, rfl, (oWL_t (n := 701) rfl rfl)⟩
set_option maxRecDepth 100000 in
theorem fl_X6_187 : oFL RX6 187 6 23 .long := ⟨by decide, by decide, rfl, (oWL_t (n := 698) rfl rfl)⟩
set_option maxRecDepth 100000 in
theorem fl_X6_190 : oFL RX6 190 6 24 .long := ⟨by decide, by decide, rfl, (oWL_t (n := 699) rfl rfl)⟩
set_option maxRecDepth 100000 in
theorem fl_X6_201 : oFL RX6 201 6 29 .int := ⟨by decide, by decide, rfl, (oWL_t (n := 704) rfl rfl)⟩
set_option maxRecDepth 100000 in
theorem fl_X6_206 : oFL RX6 206 6 31 .int := ⟨by decide, by decide, rfl, (oWL_t (n := 706) rfl rfl)⟩
set_option maxRecDepth 100000 in
theorem fl_X6_209 : oFL RX6 209 6 32 .int := ⟨by decide, by decide, rfl, (oWL_t (n := 707) rfl rfl)⟩
set_option maxRecDepth 100000 in
theorem fl_X6_215 : oFL RX6 215 6 34 .int := ⟨by decide, by decide, rfl, (oWL_t (n := 709) rfl rfl)⟩
set_option maxRecDepth 100000 in
theorem fl_X6_218 : oFL RX6 218 6 33 .int := ⟨by decide, by decide, rfl, (oWL_t (n := 708) rfl rfl)⟩
set_option maxRecDepth 100000 in
theorem fl_X6_227 : oFL RX6 227 6 35 .int := ⟨by decide, by decide, rfl, (oWL_t (n := 710) rfl rfl)⟩
set_option maxRecDepth 100000 in
theorem fl_X6_230 : oFL RX6 230 6 36 .int := ⟨by decide, by decide, rfl, (oWL_t (n := 711) rfl rfl)⟩
set_option maxRecDepth 100000 in
theorem fl_X6_233 : oFL RX6 233 6 37 .int := ⟨by decide, by decide, rfl, (oWL_t (n := 712) rfl rfl)⟩
set_option maxRecDepth 100000 in
theorem fl_X6_265 : oFL RX6 265 6 38 .int := ⟨by decide, by decide, rfl, (oWL_t (n := 713) rfl rfl)⟩
set_option maxRecDepth 100000 in
theorem fl_X6_271 : oFL RX6 271 6 30 .int := ⟨by decide, by decide, rfl, (oWL_t (n := 705) rfl rfl)⟩
set_option maxRecDepth 100000 in
theorem fl_X6_281 : oFL RX6 281 6 44 .int := ⟨by decide, by decide, rfl, (oWL_t (n := 719) rfl rfl)⟩
set_option maxRecDepth 100000 in
theorem cl_J0_335 : Cond.methodLink RJ0 335 yJ0_coder_7d493 ∈ oWL := (oWL_t (n := 496) rfl rfl)
set_option maxRecDepth 100000 in
theorem cl_J0_492 : Cond.methodLink RJ0 492 yJ0_isLatin1_aae02 ∈ oWL := (oWL_t (n := 506) rfl rfl)
set_option maxRecDepth 100000 in
theorem cl_J0_495 : Cond.methodLink RJ0 495 yJ1_charAt_3b067 ∈ oWL := (oWL_t (n := 510) rfl rfl)
set_option maxRecDepth 100000 in
theorem cl_J0_1059 : Cond.methodLink RJ0 1059 yJ3_checkIndex_8e157 ∈ oWL := (oWL_t (n := 518) rfl rfl)
set_option maxRecDepth 100000 in
theorem cl_J1_9 : Cond.methodLink RJ1 9 yJ0_checkIndex_df160 ∈ oWL := (oWL_t (n := 513) rfl rfl)
set_option maxRecDepth 100000 in
theorem cl_L_9 : Cond.methodLink RL 9 yX5_init ∈ oWL := (oWL_t (n := 16) rfl rfl)
set_option maxRecDepth 100000 in
theorem cl_L_12 : Cond.methodLink RL 12 yX6_init ∈ oWL := (oWL_t (n := 671) rfl rfl)
set_option maxRecDepth 100000 in
theorem cl_L_13 : Cond.methodLink RL 13 yX5_house ∈ oWL := (oWL_t (n := 155) rfl rfl)
set_option maxRecDepth 100000 in
theorem cl_L_17 : Cond.methodLink RL 17 yX6_house ∈ oWL := (oWL_t (n := 812) rfl rfl)
set_option maxRecDepth 100000 in
theorem cl_L_18 : Cond.methodLink RL 18 yX5_prior ∈ oWL := (oWL_t (n := 251) rfl rfl)
set_option maxRecDepth 100000 in
theorem cl_L_22 : Cond.methodLink RL 22 yX6_prior ∈ oWL := (oWL_t (n := 824) rfl rfl)
set_option maxRecDepth 100000 in
theorem cl_L_23 : Cond.methodLink RL 23 yX5_day ∈ oWL := (oWL_t (n := 263) rfl rfl)
set_option maxRecDepth 100000 in
theorem cl_L_27 : Cond.methodLink RL 27 yX6_day ∈ oWL := (oWL_t (n := 833) rfl rfl)
set_option maxRecDepth 100000 in
theorem cl_L_28 : Cond.methodLink RL 28 yX5_look ∈ oWL := (oWL_t (n := 286) rfl rfl)
set_option maxRecDepth 100000 in
theorem cl_L_32 : Cond.methodLink RL 32 yX6_look ∈ oWL := (oWL_t (n := 846) rfl rfl)
set_option maxRecDepth 100000 in
theorem cl_L_33 : Cond.methodLink RL 33 yX5_told ∈ oWL := (oWL_t (n := 298) rfl rfl)
set_option maxRecDepth 100000 in
theorem cl_L_36 : Cond.methodLink RL 36 yX6_told ∈ oWL := (oWL_t (n := 859) rfl rfl)
set_option maxRecDepth 100000 in
theorem cl_L_37 : Cond.methodLink RL 37 yX5_lasts ∈ oWL := (oWL_t (n := 302) rfl rfl)
set_option maxRecDepth 100000 in
theorem cl_L_40 : Cond.methodLink RL 40 yX6_lasts ∈ oWL := (oWL_t (n := 863) rfl rfl)
set_option maxRecDepth 100000 in
theorem cl_L_41 : Cond.methodLink RL 41 yX5_stock ∈ oWL := (oWL_t (n := 313) rfl rfl)
set_option maxRecDepth 100000 in
theorem cl_L_44 : Cond.methodLink RL 44 yX6_stock ∈ oWL := (oWL_t (n := 867) rfl rfl)
set_option maxRecDepth 100000 in
theorem cl_L_45 : Cond.methodLink RL 45 yX5_lorry ∈ oWL := (oWL_t (n := 318) rfl rfl)
set_option maxRecDepth 100000 in
theorem cl_L_48 : Cond.methodLink RL 48 yX6_lorry ∈ oWL := (oWL_t (n := 872) rfl rfl)
set_option maxRecDepth 100000 in
theorem cl_L_49 : Cond.methodLink RL 49 yX5_calls ∈ oWL := (oWL_t (n := 322) rfl rfl)
set_option maxRecDepth 100000 in
theorem cl_L_53 : Cond.methodLink RL 53 yX6_calls ∈ oWL := (oWL_t (n := 877) rfl rfl)
set_option maxRecDepth 100000 in
theorem cl_L_54 : Cond.methodLink RL 54 yX5_round ∈ oWL := (oWL_t (n := 345) rfl rfl)
set_option maxRecDepth 100000 in
theorem cl_L_57 : Cond.methodLink RL 57 yX6_round ∈ oWL := (oWL_t (n := 886) rfl rfl)
set_option maxRecDepth 100000 in
theorem cl_L_58 : Cond.methodLink RL 58 yX5_stop ∈ oWL := (oWL_t (n := 401) rfl rfl)
set_option maxRecDepth 100000 in
theorem cl_L_61 : Cond.methodLink RL 61 yX6_stop ∈ oWL := (oWL_t (n := 914) rfl rfl)
set_option maxRecDepth 100000 in
theorem cl_L_62 : Cond.methodLink RL 62 yX5_fill ∈ oWL := (oWL_t (n := 409) rfl rfl)
set_option maxRecDepth 100000 in
theorem cl_L_65 : Cond.methodLink RL 65 yX6_fill ∈ oWL := (oWL_t (n := 918) rfl rfl)
set_option maxRecDepth 100000 in
theorem cl_L_66 : Cond.methodLink RL 66 yX5_price ∈ oWL := (oWL_t (n := 447) rfl rfl)
set_option maxRecDepth 100000 in
theorem cl_L_69 : Cond.methodLink RL 69 yX6_price ∈ oWL := (oWL_t (n := 942) rfl rfl)
set_option maxRecDepth 100000 in
theorem cl_L_72 : Cond.methodLink RL 72 yX5_feed ∈ oWL := (oWL_t (n := 451) rfl rfl)
set_option maxRecDepth 100000 in
theorem cl_L_76 : Cond.methodLink RL 76 yX6_feed ∈ oWL := (oWL_t (n := 951) rfl rfl)
set_option maxRecDepth 100000 in
theorem cl_L_77 : Cond.methodLink RL 77 yX5_plans ∈ oWL := (oWL_t (n := 460) rfl rfl)
set_option maxRecDepth 100000 in
theorem cl_L_80 : Cond.methodLink RL 80 yX6_plans ∈ oWL := (oWL_t (n := 957) rfl rfl)
set_option maxRecDepth 100000 in
theorem cl_L_81 : Cond.methodLink RL 81 yX5_fault ∈ oWL := (oWL_t (n := 568) rfl rfl)
set_option maxRecDepth 100000 in
theorem cl_L_84 : Cond.methodLink RL 84 yX6_fault ∈ oWL := (oWL_t (n := 1004) rfl rfl)
set_option maxRecDepth 100000 in
theorem cl_L_85 : Cond.methodLink RL 85 yX5_quote ∈ oWL := (oWL_t (n := 572) rfl rfl)
set_option maxRecDepth 100000 in
theorem cl_L_88 : Cond.methodLink RL 88 yX6_quote ∈ oWL := (oWL_t (n := 947) rfl rfl)
set_option maxRecDepth 100000 in
theorem cl_L_89 : Cond.methodLink RL 89 yX5_kind ∈ oWL := (oWL_t (n := 576) rfl rfl)
set_option maxRecDepth 100000 in
theorem cl_L_92 : Cond.methodLink RL 92 yX6_kind ∈ oWL := (oWL_t (n := 1008) rfl rfl)
set_option maxRecDepth 100000 in
theorem cl_L_93 : Cond.methodLink RL 93 yX5_as ∈ oWL := (oWL_t (n := 596) rfl rfl)
set_option maxRecDepth 100000 in
theorem cl_L_96 : Cond.methodLink RL 96 yX6_as ∈ oWL := (oWL_t (n := 1016) rfl rfl)
set_option maxRecDepth 100000 in
theorem cl_L_97 : Cond.methodLink RL 97 yX5_ask ∈ oWL := (oWL_t (n := 605) rfl rfl)
set_option maxRecDepth 100000 in
theorem cl_L_100 : Cond.methodLink RL 100 yX6_ask ∈ oWL := (oWL_t (n := 1022) rfl rfl)
set_option maxRecDepth 100000 in
theorem cl_L_101 : Cond.methodLink RL 101 yX5_trace ∈ oWL := (oWL_t (n := 655) rfl rfl)
set_option maxRecDepth 100000 in
theorem cl_L_104 : Cond.methodLink RL 104 yX6_trace ∈ oWL := (oWL_t (n := 1038) rfl rfl)
set_option maxRecDepth 100000 in
theorem cl_L_105 : Cond.methodLink RL 105 yX5_count ∈ oWL := (oWL_t (n := 664) rfl rfl)
set_option maxRecDepth 100000 in
theorem cl_L_109 : Cond.methodLink RL 109 yX6_count ∈ oWL := (oWL_t (n := 1042) rfl rfl)
set_option maxRecDepth 100000 in
theorem cl_X0_3 : Cond.methodLink RX0 3 Lib.objectInit ∈ oWL := (oWL_t (n := 104) rfl rfl)
set_option maxRecDepth 100000 in
theorem cl_X0_20 : Cond.methodLink RX0 20 yX1_toldKind ∈ oWL := (oWL_t (n := 617) rfl rfl)
set_option maxRecDepth 100000 in
theorem cl_X0_26 : Cond.methodLink RX0 26 yX0_leakyWeight ∈ oWL := (oWL_t (n := 618) rfl rfl)
set_option maxRecDepth 100000 in
theorem cl_X0_30 : Cond.methodLink RX0 30 yX0_steadyWeight ∈ oWL := (oWL_t (n := 630) rfl rfl)
set_option maxRecDepth 100000 in
theorem cl_X0_33 : Cond.methodLink RX0 33 yX0_knownWeight ∈ oWL := (oWL_t (n := 634) rfl rfl)
set_option maxRecDepth 100000 in
theorem cl_X0_36 : Cond.methodLink RX0 36 yX0_lentWeight ∈ oWL := (oWL_t (n := 626) rfl rfl)
set_option maxRecDepth 100000 in
theorem cl_X0_39 : Cond.methodLink RX0 39 yX0_leakyMark ∈ oWL := (oWL_t (n := 642) rfl rfl)
set_option maxRecDepth 100000 in
theorem cl_X0_42 : Cond.methodLink RX0 42 yX0_knownMark ∈ oWL := (oWL_t (n := 651) rfl rfl)
set_option maxRecDepth 100000 in
theorem cl_X0_45 : Cond.methodLink RX0 45 yX0_lentMark ∈ oWL := (oWL_t (n := 646) rfl rfl)
set_option maxRecDepth 100000 in
theorem cl_X0_48 : Cond.methodLink RX0 48 yX0_begin ∈ oWL := (oWL_t (n := 622) rfl rfl)
set_option maxRecDepth 100000 in
theorem cl_X0_67 : Cond.methodLink RX0 67 yX0_weight ∈ oWL := (oWL_t (n := 650) rfl rfl)
set_option maxRecDepth 100000 in
theorem cl_X1_3 : Cond.methodLink RX1 3 Lib.objectInit ∈ oWL := (oWL_t (n := 168) rfl rfl)
set_option maxRecDepth 100000 in
theorem cl_X1_62 : Cond.methodLink RX1 62 yX1_low ∈ oWL := (oWL_t (n := 271) rfl rfl)
set_option maxRecDepth 100000 in
theorem cl_X1_66 : Cond.methodLink RX1 66 yJ9_max_7cf53 ∈ oWL := (oWL_t (n := 275) rfl rfl)
set_option maxRecDepth 100000 in
theorem cl_X1_72 : Cond.methodLink RX1 72 yX1_high ∈ oWL := (oWL_t (n := 278) rfl rfl)
set_option maxRecDepth 100000 in
theorem cl_X1_75 : Cond.methodLink RX1 75 yJ9_min_7cf53 ∈ oWL := (oWL_t (n := 310) rfl rfl)
set_option maxRecDepth 100000 in
theorem cl_X1_78 : Cond.methodLink RX1 78 yX1_noteOf ∈ oWL := (oWL_t (n := 430) rfl rfl)
set_option maxRecDepth 100000 in
theorem cl_X1_81 : Cond.methodLink RX1 81 yX1_narrow ∈ oWL := (oWL_t (n := 434) rfl rfl)
set_option maxRecDepth 100000 in
theorem cl_X1_85 : Cond.methodLink RX1 85 yX1_cut ∈ oWL := (oWL_t (n := 438) rfl rfl)
set_option maxRecDepth 100000 in
theorem cl_X1_88 : Cond.methodLink RX1 88 yX1_roundedUp ∈ oWL := (oWL_t (n := 441) rfl rfl)
set_option maxRecDepth 100000 in
theorem cl_X1_91 : Cond.methodLink RX1 91 yJ9_floorDiv_7cf53 ∈ oWL := (oWL_t (n := 444) rfl rfl)
set_option maxRecDepth 100000 in
theorem cl_X1_94 : Cond.methodLink RX1 94 yX1_isKnown ∈ oWL := (oWL_t (n := 592) rfl rfl)
set_option maxRecDepth 100000 in
theorem cl_X1_98 : Cond.methodLink RX1 98 yX1_isSteady ∈ oWL := (oWL_t (n := 588) rfl rfl)
set_option maxRecDepth 100000 in
theorem cl_X1_101 : Cond.methodLink RX1 101 yX1_isLeaky ∈ oWL := (oWL_t (n := 584) rfl rfl)
set_option maxRecDepth 100000 in
theorem cl_X2_3 : Cond.methodLink RX2 3 Lib.objectInit ∈ oWL := (oWL_t (n := 174) rfl rfl)
set_option maxRecDepth 100000 in
theorem cl_X2_21 : Cond.methodLink RX2 21 yJ9_min_7cf53 ∈ oWL := (oWL_t (n := 417) rfl rfl)
set_option maxRecDepth 100000 in
theorem cl_X2_27 : Cond.methodLink RX2 27 yX2_ahead ∈ oWL := (oWL_t (n := 418) rfl rfl)
set_option maxRecDepth 100000 in
theorem cl_X3_3 : Cond.methodLink RX3 3 Lib.objectInit ∈ oWL := (oWL_t (n := 58) rfl rfl)
set_option maxRecDepth 100000 in
theorem cl_X3_51 : Cond.methodLink RX3 51 yX3_readOnce ∈ oWL := (oWL_t (n := 468) rfl rfl)
set_option maxRecDepth 100000 in
theorem cl_X3_55 : Cond.methodLink RX3 55 yX3_readToken ∈ oWL := (oWL_t (n := 472) rfl rfl)
set_option maxRecDepth 100000 in
theorem cl_X3_58 : Cond.methodLink RX3 58 yX3_takeToken ∈ oWL := (oWL_t (n := 550) rfl rfl)
set_option maxRecDepth 100000 in
theorem cl_X3_69 : Cond.methodLink RX3 69 yX2_become ∈ oWL := (oWL_t (n := 564) rfl rfl)
set_option maxRecDepth 100000 in
theorem cl_X3_75 : Cond.methodLink RX3 75 yX3_canStandHere ∈ oWL := (oWL_t (n := 554) rfl rfl)
set_option maxRecDepth 100000 in
theorem cl_X3_83 : Cond.methodLink RX3 83 yX3_takeWay ∈ oWL := (oWL_t (n := 559) rfl rfl)
set_option maxRecDepth 100000 in
theorem cl_X3_86 : Cond.methodLink RX3 86 yX3_byteAt ∈ oWL := (oWL_t (n := 476) rfl rfl)
set_option maxRecDepth 100000 in
theorem cl_X3_90 : Cond.methodLink RX3 90 yX3_isLetter ∈ oWL := (oWL_t (n := 480) rfl rfl)
set_option maxRecDepth 100000 in
theorem cl_X3_94 : Cond.methodLink RX3 94 yX3_nameToken ∈ oWL := (oWL_t (n := 483) rfl rfl)
set_option maxRecDepth 100000 in
theorem cl_X3_98 : Cond.methodLink RX3 98 yX3_isFigure ∈ oWL := (oWL_t (n := 543) rfl rfl)
set_option maxRecDepth 100000 in
theorem cl_X3_101 : Cond.methodLink RX3 101 yX3_numberToken ∈ oWL := (oWL_t (n := 546) rfl rfl)
set_option maxRecDepth 100000 in
theorem cl_X3_106 : Cond.methodLink RX3 106 yX3_isName ∈ oWL := (oWL_t (n := 488) rfl rfl)
set_option maxRecDepth 100000 in
theorem cl_X3_116 : Cond.methodLink RX3 116 yJ0_length_8abf5 ∈ oWL := (oWL_t (n := 492) rfl rfl)
set_option maxRecDepth 100000 in
theorem cl_X3_121 : Cond.methodLink RX3 121 yJ0_charAt_5068e ∈ oWL := (oWL_t (n := 502) rfl rfl)
set_option maxRecDepth 100000 in
theorem cl_X4_3 : Cond.methodLink RX4 3 Lib.objectInit ∈ oWL := (oWL_t (n := 29) rfl rfl)
set_option maxRecDepth 100000 in
theorem cl_X4_34 : Cond.methodLink RX4 34 yX4_leastAt ∈ oWL := (oWL_t (n := 383) rfl rfl)
set_option maxRecDepth 100000 in
theorem cl_X4_39 : Cond.methodLink RX4 39 yX4_gather ∈ oWL := (oWL_t (n := 361) rfl rfl)
set_option maxRecDepth 100000 in
theorem cl_X4_43 : Cond.methodLink RX4 43 yX4_measure ∈ oWL := (oWL_t (n := 366) rfl rfl)
set_option maxRecDepth 100000 in
theorem cl_X4_47 : Cond.methodLink RX4 47 yX4_arrange ∈ oWL := (oWL_t (n := 388) rfl rfl)
set_option maxRecDepth 100000 in
theorem cl_X4_62 : Cond.methodLink RX4 62 yX4_between ∈ oWL := (oWL_t (n := 370) rfl rfl)
set_option maxRecDepth 100000 in
theorem cl_X4_66 : Cond.methodLink RX4 66 yX4_wayBy ∈ oWL := (oWL_t (n := 379) rfl rfl)
set_option maxRecDepth 100000 in
theorem cl_X4_70 : Cond.methodLink RX4 70 yJ9_min_7cf53 ∈ oWL := (oWL_t (n := 387) rfl rfl)
set_option maxRecDepth 100000 in
theorem cl_X4_75 : Cond.methodLink RX4 75 yX4_firstNext ∈ oWL := (oWL_t (n := 392) rfl rfl)
set_option maxRecDepth 100000 in
theorem cl_X4_82 : Cond.methodLink RX4 82 yJ9_abs_0f7a4 ∈ oWL := (oWL_t (n := 376) rfl rfl)
set_option maxRecDepth 100000 in
theorem cl_X5_1 : Cond.methodLink RX5 1 Lib.objectInit ∈ oWL := (oWL_t (n := 19) rfl rfl)
set_option maxRecDepth 100000 in
theorem cl_X5_68 : Cond.methodLink RX5 68 yX5_isOutside ∈ oWL := (oWL_t (n := 159) rfl rfl)
set_option maxRecDepth 100000 in
theorem cl_X5_74 : Cond.methodLink RX5 74 yX1_init ∈ oWL := (oWL_t (n := 165) rfl rfl)
set_option maxRecDepth 100000 in
theorem cl_X5_77 : Cond.methodLink RX5 77 yX5_houseAt ∈ oWL := (oWL_t (n := 255) rfl rfl)
set_option maxRecDepth 100000 in
theorem cl_X5_100 : Cond.methodLink RX5 100 yX1_endDay ∈ oWL := (oWL_t (n := 267) rfl rfl)
set_option maxRecDepth 100000 in
theorem cl_X5_104 : Cond.methodLink RX5 104 yX1_isSafe ∈ oWL := (oWL_t (n := 282) rfl rfl)
set_option maxRecDepth 100000 in
theorem cl_X5_108 : Cond.methodLink RX5 108 yX5_countDue ∈ oWL := (oWL_t (n := 290) rfl rfl)
set_option maxRecDepth 100000 in
theorem cl_X5_118 : Cond.methodLink RX5 118 yX1_isDue ∈ oWL := (oWL_t (n := 294) rfl rfl)
set_option maxRecDepth 100000 in
theorem cl_X5_128 : Cond.methodLink RX5 128 yX1_daysAboveZero ∈ oWL := (oWL_t (n := 306) rfl rfl)
set_option maxRecDepth 100000 in
theorem cl_X5_133 : Cond.methodLink RX5 133 yJ6_bitCount_0f7a4 ∈ oWL := (oWL_t (n := 326) rfl rfl)
set_option maxRecDepth 100000 in
theorem cl_X5_138 : Cond.methodLink RX5 138 yX5_mostUrgent ∈ oWL := (oWL_t (n := 332) rfl rfl)
set_option maxRecDepth 100000 in
theorem cl_X5_141 : Cond.methodLink RX5 141 yX1_mayNeed ∈ oWL := (oWL_t (n := 341) rfl rfl)
set_option maxRecDepth 100000 in
theorem cl_X5_144 : Cond.methodLink RX5 144 yX5_isNoRound ∈ oWL := (oWL_t (n := 349) rfl rfl)
set_option maxRecDepth 100000 in
theorem cl_X5_148 : Cond.methodLink RX5 148 yX5_needOf ∈ oWL := (oWL_t (n := 353) rfl rfl)
set_option maxRecDepth 100000 in
theorem cl_X5_151 : Cond.methodLink RX5 151 yX4_prepare ∈ oWL := (oWL_t (n := 357) rfl rfl)
set_option maxRecDepth 100000 in
theorem cl_X5_155 : Cond.methodLink RX5 155 yX4_way ∈ oWL := (oWL_t (n := 397) rfl rfl)
set_option maxRecDepth 100000 in
theorem cl_X5_158 : Cond.methodLink RX5 158 yX4_houseOn ∈ oWL := (oWL_t (n := 405) rfl rfl)
set_option maxRecDepth 100000 in
theorem cl_X5_168 : Cond.methodLink RX5 168 yX2_costOf ∈ oWL := (oWL_t (n := 413) rfl rfl)
set_option maxRecDepth 100000 in
theorem cl_X5_174 : Cond.methodLink RX5 174 yX2_useUp ∈ oWL := (oWL_t (n := 422) rfl rfl)
set_option maxRecDepth 100000 in
theorem cl_X5_177 : Cond.methodLink RX5 177 yX1_takeFill ∈ oWL := (oWL_t (n := 426) rfl rfl)
set_option maxRecDepth 100000 in
theorem cl_X5_180 : Cond.methodLink RX5 180 yX3_append ∈ oWL := (oWL_t (n := 455) rfl rfl)
set_option maxRecDepth 100000 in
theorem cl_X5_184 : Cond.methodLink RX5 184 yX3_readAll ∈ oWL := (oWL_t (n := 464) rfl rfl)
set_option maxRecDepth 100000 in
theorem cl_X5_191 : Cond.methodLink RX5 191 yX1_toldKind ∈ oWL := (oWL_t (n := 580) rfl rfl)
set_option maxRecDepth 100000 in
theorem cl_X5_194 : Cond.methodLink RX5 194 yX1_isOf ∈ oWL := (oWL_t (n := 600) rfl rfl)
set_option maxRecDepth 100000 in
theorem cl_X5_198 : Cond.methodLink RX5 198 yX0_emptyTrace ∈ oWL := (oWL_t (n := 609) rfl rfl)
set_option maxRecDepth 100000 in
theorem cl_X5_201 : Cond.methodLink RX5 201 yX0_weight ∈ oWL := (oWL_t (n := 613) rfl rfl)
set_option maxRecDepth 100000 in
theorem cl_X5_205 : Cond.methodLink RX5 205 yX0_mark ∈ oWL := (oWL_t (n := 638) rfl rfl)
set_option maxRecDepth 100000 in
theorem cl_X5_208 : Cond.methodLink RX5 208 yX0_traced ∈ oWL := (oWL_t (n := 659) rfl rfl)
set_option maxRecDepth 100000 in
theorem cl_X5_216 : Cond.methodLink RX5 216 yX5_houseIn ∈ oWL := (oWL_t (n := 259) rfl rfl)
set_option maxRecDepth 100000 in
theorem cl_X5_221 : Cond.methodLink RX5 221 yX1_daysToGo ∈ oWL := (oWL_t (n := 337) rfl rfl)
set_option maxRecDepth 100000 in
theorem cl_X6_1 : Cond.methodLink RX6 1 Lib.objectInit ∈ oWL := (oWL_t (n := 674) rfl rfl)
set_option maxRecDepth 100000 in
theorem cl_X6_96 : Cond.methodLink RX6 96 yX6_in ∈ oWL := (oWL_t (n := 817) rfl rfl)
set_option maxRecDepth 100000 in
theorem cl_X6_108 : Cond.methodLink RX6 108 yX6_isHouse ∈ oWL := (oWL_t (n := 828) rfl rfl)
set_option maxRecDepth 100000 in
theorem cl_X6_118 : Cond.methodLink RX6 118 yX6_lowOf ∈ oWL := (oWL_t (n := 838) rfl rfl)
set_option maxRecDepth 100000 in
theorem cl_X6_122 : Cond.methodLink RX6 122 yX6_highOf ∈ oWL := (oWL_t (n := 842) rfl rfl)
set_option maxRecDepth 100000 in
theorem cl_X6_125 : Cond.methodLink RX6 125 yX6_isDue ∈ oWL := (oWL_t (n := 855) rfl rfl)
set_option maxRecDepth 100000 in
theorem cl_X6_130 : Cond.methodLink RX6 130 yX6_due ∈ oWL := (oWL_t (n := 851) rfl rfl)
set_option maxRecDepth 100000 in
theorem cl_X6_146 : Cond.methodLink RX6 146 yX6_canGo ∈ oWL := (oWL_t (n := 882) rfl rfl)
set_option maxRecDepth 100000 in
theorem cl_X6_153 : Cond.methodLink RX6 153 yX6_size ∈ oWL := (oWL_t (n := 903) rfl rfl)
set_option maxRecDepth 100000 in
theorem cl_X6_156 : Cond.methodLink RX6 156 yX6_fromDepot ∈ oWL := (oWL_t (n := 899) rfl rfl)
set_option maxRecDepth 100000 in
theorem cl_X6_159 : Cond.methodLink RX6 159 yX6_between ∈ oWL := (oWL_t (n := 906) rfl rfl)
set_option maxRecDepth 100000 in
theorem cl_X6_162 : Cond.methodLink RX6 162 yX6_isSet ∈ oWL := (oWL_t (n := 890) rfl rfl)
set_option maxRecDepth 100000 in
theorem cl_X6_167 : Cond.methodLink RX6 167 yX6_findWays ∈ oWL := (oWL_t (n := 895) rfl rfl)
set_option maxRecDepth 100000 in
theorem cl_X6_170 : Cond.methodLink RX6 170 yX6_nextOf ∈ oWL := (oWL_t (n := 910) rfl rfl)
set_option maxRecDepth 100000 in
theorem cl_X6_173 : Cond.methodLink RX6 173 yX6_cut ∈ oWL := (oWL_t (n := 933) rfl rfl)
set_option maxRecDepth 100000 in
theorem cl_X6_176 : Cond.methodLink RX6 176 yX6_least ∈ oWL := (oWL_t (n := 926) rfl rfl)
set_option maxRecDepth 100000 in
theorem cl_X6_178 : Cond.methodLink RX6 178 yX6_most ∈ oWL := (oWL_t (n := 936) rfl rfl)
set_option maxRecDepth 100000 in
theorem cl_X6_181 : Cond.methodLink RX6 181 yX6_roundedUp ∈ oWL := (oWL_t (n := 939) rfl rfl)
set_option maxRecDepth 100000 in
theorem cl_X6_184 : Cond.methodLink RX6 184 yX6_cost ∈ oWL := (oWL_t (n := 922) rfl rfl)
set_option maxRecDepth 100000 in
theorem cl_X6_193 : Cond.methodLink RX6 193 yX6_makeNarrower ∈ oWL := (oWL_t (n := 929) rfl rfl)
set_option maxRecDepth 100000 in
theorem cl_X6_212 : Cond.methodLink RX6 212 yX6_byteAt ∈ oWL := (oWL_t (n := 965) rfl rfl)
set_option maxRecDepth 100000 in
theorem cl_X6_221 : Cond.methodLink RX6 221 yX6_isLetter ∈ oWL := (oWL_t (n := 969) rfl rfl)
set_option maxRecDepth 100000 in
theorem cl_X6_224 : Cond.methodLink RX6 224 yX6_isFigure ∈ oWL := (oWL_t (n := 972) rfl rfl)
set_option maxRecDepth 100000 in
theorem cl_X6_236 : Cond.methodLink RX6 236 yX6_bad ∈ oWL := (oWL_t (n := 988) rfl rfl)
set_option maxRecDepth 100000 in
theorem cl_X6_240 : Cond.methodLink RX6 240 yX6_step ∈ oWL := (oWL_t (n := 961) rfl rfl)
set_option maxRecDepth 100000 in
theorem cl_X6_243 : Cond.methodLink RX6 243 yX6_name ∈ oWL := (oWL_t (n := 979) rfl rfl)
set_option maxRecDepth 100000 in
theorem cl_X6_249 : Cond.methodLink RX6 249 yX6_take ∈ oWL := (oWL_t (n := 984) rfl rfl)
set_option maxRecDepth 100000 in
theorem cl_X6_253 : Cond.methodLink RX6 253 yX6_number ∈ oWL := (oWL_t (n := 992) rfl rfl)
set_option maxRecDepth 100000 in
theorem cl_X6_262 : Cond.methodLink RX6 262 yX6_is ∈ oWL := (oWL_t (n := 999) rfl rfl)
set_option maxRecDepth 100000 in
theorem cl_X6_268 : Cond.methodLink RX6 268 yX6_readOne ∈ oWL := (oWL_t (n := 975) rfl rfl)
set_option maxRecDepth 100000 in
theorem cl_X6_275 : Cond.methodLink RX6 275 yX6_kindOf ∈ oWL := (oWL_t (n := 1012) rfl rfl)
set_option maxRecDepth 100000 in
theorem cl_X6_284 : Cond.methodLink RX6 284 yX6_began ∈ oWL := (oWL_t (n := 1030) rfl rfl)
set_option maxRecDepth 100000 in
theorem cl_X6_287 : Cond.methodLink RX6 287 yX6_weight ∈ oWL := (oWL_t (n := 1026) rfl rfl)
set_option maxRecDepth 100000 in
theorem cl_X6_290 : Cond.methodLink RX6 290 yX6_marked ∈ oWL := (oWL_t (n := 1034) rfl rfl)
theorem nl_X1_11 : (RX1, 11, yX2_init) ∈ oNestL := List.mem_of_getElem? (i := 3) rfl
theorem nl_X3_79 : (RX3, 79, yX5_houseIn) ∈ oNestL := List.mem_of_getElem? (i := 6) rfl
theorem nl_X4_50 : (RX4, 50, yX5_houseIn) ∈ oNestL := List.mem_of_getElem? (i := 4) rfl
theorem nl_X4_78 : (RX4, 78, yX5_isOutside) ∈ oNestL := List.mem_of_getElem? (i := 5) rfl
theorem nl_X5_17 : (RX5, 17, yX4_init) ∈ oNestL := List.mem_of_getElem? (i := 0) rfl
theorem nl_X5_24 : (RX5, 24, yX3_init) ∈ oNestL := List.mem_of_getElem? (i := 1) rfl
theorem nl_X5_31 : (RX5, 31, yX0_init) ∈ oNestL := List.mem_of_getElem? (i := 2) rfl
set_option maxRecDepth 100000 in
theorem lc_J6_265 : Cond.constant RJ6 265 (1431655765) ∈ oWL := (oWL_t (n := 329) rfl rfl)
set_option maxRecDepth 100000 in
theorem lc_J6_266 : Cond.constant RJ6 266 (858993459) ∈ oWL := (oWL_t (n := 330) rfl rfl)
set_option maxRecDepth 100000 in
theorem lc_J6_267 : Cond.constant RJ6 267 (252645135) ∈ oWL := (oWL_t (n := 331) rfl rfl)
set_option maxRecDepth 100000 in
theorem lc_X0_19 : Cond.constant RX0 19 (-1000000) ∈ oWL := (oWL_t (n := 663) rfl rfl)
set_option maxRecDepth 100000 in
theorem lc_X3_50 : Cond.constant RX3 50 (-1000003) ∈ oWL := (oWL_t (n := 459) rfl rfl)
set_option maxRecDepth 100000 in
theorem lc_X3_62 : Cond.constant RX3 62 (-1000100) ∈ oWL := (oWL_t (n := 563) rfl rfl)
set_option maxRecDepth 100000 in
theorem lc_X4_38 : Cond.constant RX4 38 (-1000000) ∈ oWL := (oWL_t (n := 396) rfl rfl)
set_option maxRecDepth 100000 in
theorem lc_X4_65 : Cond.constant RX4 65 (1000000) ∈ oWL := (oWL_t (n := 375) rfl rfl)
set_option maxRecDepth 100000 in
theorem lc_X5_72 : Cond.constant RX5 72 (-1000001) ∈ oWL := (oWL_t (n := 162) rfl rfl)
set_option maxRecDepth 100000 in
theorem lc_X5_73 : Cond.constant RX5 73 (-1000003) ∈ oWL := (oWL_t (n := 163) rfl rfl)
set_option maxRecDepth 100000 in
theorem lc_X5_87 : Cond.constant RX5 87 (-1000002) ∈ oWL := (oWL_t (n := 262) rfl rfl)
set_option maxRecDepth 100000 in
theorem lc_X5_132 : Cond.constant RX5 132 (100000) ∈ oWL := (oWL_t (n := 317) rfl rfl)
set_option maxRecDepth 100000 in
theorem lc_X5_197 : Cond.constant RX5 197 (-1000004) ∈ oWL := (oWL_t (n := 604) rfl rfl)
set_option maxRecDepth 100000 in
theorem lc_X5_220 : Cond.constant RX5 220 (-1000000) ∈ oWL := (oWL_t (n := 336) rfl rfl)
set_option maxRecDepth 100000 in
theorem lc_X6_106 : Cond.constant RX6 106 (-1000001) ∈ oWL := (oWL_t (n := 822) rfl rfl)
set_option maxRecDepth 100000 in
theorem lc_X6_107 : Cond.constant RX6 107 (-1000003) ∈ oWL := (oWL_t (n := 823) rfl rfl)
set_option maxRecDepth 100000 in
theorem lc_X6_112 : Cond.constant RX6 112 (-1000002) ∈ oWL := (oWL_t (n := 832) rfl rfl)
set_option maxRecDepth 100000 in
theorem lc_X6_145 : Cond.constant RX6 145 (-1000000) ∈ oWL := (oWL_t (n := 881) rfl rfl)
set_option maxRecDepth 100000 in
theorem lc_X6_274 : Cond.constant RX6 274 (-1000100) ∈ oWL := (oWL_t (n := 1003) rfl rfl)
set_option maxRecDepth 100000 in
theorem lc_X6_280 : Cond.constant RX6 280 (-1000004) ∈ oWL := (oWL_t (n := 1021) rfl rfl)
set_option maxRecDepth 100000 in
theorem ll_L_70 : Cond.constantLong RL 70 (4294967295) ∈ oWL := (oWL_t (n := 1047) rfl rfl)
set_option maxRecDepth 100000 in
theorem ll_X5_214 : Cond.constantLong RX5 214 (-1000001) ∈ oWL := (oWL_t (n := 668) rfl rfl)
set_option maxRecDepth 100000 in
theorem ll_X6_100 : Cond.constantLong RX6 100 (50) ∈ oWL := (oWL_t (n := 816) rfl rfl)
set_option maxRecDepth 100000 in
theorem ll_X6_102 : Cond.constantLong RX6 102 (100) ∈ oWL := (oWL_t (n := 820) rfl rfl)
set_option maxRecDepth 100000 in
theorem ll_X6_104 : Cond.constantLong RX6 104 (5000) ∈ oWL := (oWL_t (n := 821) rfl rfl)
set_option maxRecDepth 100000 in
theorem ll_X6_113 : Cond.constantLong RX6 113 (40) ∈ oWL := (oWL_t (n := 837) rfl rfl)
set_option maxRecDepth 100000 in
theorem ll_X6_128 : Cond.constantLong RX6 128 (10) ∈ oWL := (oWL_t (n := 850) rfl rfl)
set_option maxRecDepth 100000 in
theorem ll_X6_137 : Cond.constantLong RX6 137 (100000) ∈ oWL := (oWL_t (n := 871) rfl rfl)
set_option maxRecDepth 100000 in
theorem ll_X6_143 : Cond.constantLong RX6 143 (9000) ∈ oWL := (oWL_t (n := 876) rfl rfl)
set_option maxRecDepth 100000 in
theorem ll_X6_165 : Cond.constantLong RX6 165 (2) ∈ oWL := (oWL_t (n := 894) rfl rfl)
set_option maxRecDepth 100000 in
theorem ll_X6_197 : Cond.constantLong RX6 197 (1000) ∈ oWL := (oWL_t (n := 946) rfl rfl)
set_option maxRecDepth 100000 in
theorem ll_X6_199 : Cond.constantLong RX6 199 (8) ∈ oWL := (oWL_t (n := 955) rfl rfl)
set_option maxRecDepth 100000 in
theorem ll_X6_204 : Cond.constantLong RX6 204 (255) ∈ oWL := (oWL_t (n := 956) rfl rfl)
set_option maxRecDepth 100000 in
theorem ll_X6_247 : Cond.constantLong RX6 247 (448546567013) ∈ oWL := (oWL_t (n := 983) rfl rfl)
set_option maxRecDepth 100000 in
theorem ll_X6_256 : Cond.constantLong RX6 256 (6513008) ∈ oWL := (oWL_t (n := 996) rfl rfl)
set_option maxRecDepth 100000 in
theorem ll_X6_258 : Cond.constantLong RX6 258 (1885432164) ∈ oWL := (oWL_t (n := 997) rfl rfl)
set_option maxRecDepth 100000 in
theorem ll_X6_260 : Cond.constantLong RX6 260 (6578553) ∈ oWL := (oWL_t (n := 998) rfl rfl)
set_option maxRecDepth 100000 in
theorem ll_X6_278 : Cond.constantLong RX6 278 (3) ∈ oWL := (oWL_t (n := 1020) rfl rfl)
set_option maxRecDepth 100000 in
theorem ll_X6_293 : Cond.constantLong RX6 293 (-1000001) ∈ oWL := (oWL_t (n := 1046) rfl rfl)
set_option maxRecDepth 100000 in
theorem oi_in : Cond.instanceMethod Lib.objectInit ∈ oWL := (oWL_t (n := 20) rfl rfl)
set_option maxRecDepth 100000 in
theorem oi_co : Cond.code Lib.objectInit ⟨#[0xb1]⟩ 1 none ∈ oWL := (oWL_t (n := 21) rfl rfl)
set_option maxRecDepth 100000 in
theorem in_X5 : Cond.instantiable (clQ 5).1 (clQ 5).2.2 ∈ oWL := (oWL_t (n := 15) rfl rfl)
set_option maxRecDepth 100000 in
theorem iz_X5 : Cond.initialized (clQ 5).1 ∈ oWL := (oWL_t (n := 1) rfl rfl)
set_option maxRecDepth 100000 in
theorem in_X4 : Cond.instantiable (clQ 4).1 (clQ 4).2.2 ∈ oWL := (oWL_t (n := 25) rfl rfl)
set_option maxRecDepth 100000 in
theorem iz_X4 : Cond.initialized (clQ 4).1 ∈ oWL := (oWL_t (n := 2) rfl rfl)
set_option maxRecDepth 100000 in
theorem in_X3 : Cond.instantiable (clQ 3).1 (clQ 3).2.2 ∈ oWL := (oWL_t (n := 54) rfl rfl)
set_option maxRecDepth 100000 in
theorem iz_X3 : Cond.initialized (clQ 3).1 ∈ oWL := (oWL_t (n := 3) rfl rfl)
set_option maxRecDepth 100000 in
theorem in_X0 : Cond.instantiable (clQ 0).1 (clQ 0).2.2 ∈ oWL := (oWL_t (n := 100) rfl rfl)
set_option maxRecDepth 100000 in
theorem iz_X0 : Cond.initialized (clQ 0).1 ∈ oWL := (oWL_t (n := 4) rfl rfl)
set_option maxRecDepth 100000 in
theorem in_X1 : Cond.instantiable (clQ 1).1 (clQ 1).2.2 ∈ oWL := (oWL_t (n := 164) rfl rfl)
set_option maxRecDepth 100000 in
theorem iz_X1 : Cond.initialized (clQ 1).1 ∈ oWL := (oWL_t (n := 6) rfl rfl)
set_option maxRecDepth 100000 in
theorem in_X2 : Cond.instantiable (clQ 2).1 (clQ 2).2.2 ∈ oWL := (oWL_t (n := 170) rfl rfl)
set_option maxRecDepth 100000 in
theorem iz_X2 : Cond.initialized (clQ 2).1 ∈ oWL := (oWL_t (n := 7) rfl rfl)
set_option maxRecDepth 100000 in
theorem in_X6 : Cond.instantiable (clQ 6).1 (clQ 6).2.2 ∈ oWL := (oWL_t (n := 670) rfl rfl)
set_option maxRecDepth 100000 in
theorem iz_X6 : Cond.initialized (clQ 6).1 ∈ oWL := (oWL_t (n := 5) rfl rfl)
set_option maxRecDepth 100000 in
theorem ck_L_7 : Cond.classLink RL 7 "OilRound" ∈ oWL := (oWL_t (n := 14) rfl rfl)
set_option maxRecDepth 100000 in
theorem ck_L_10 : Cond.classLink RL 10 "OilRoundModel" ∈ oWL := (oWL_t (n := 669) rfl rfl)
set_option maxRecDepth 100000 in
theorem ck_X1_9 : Cond.classLink RX1 9 "OilRound$Plan" ∈ oWL := (oWL_t (n := 169) rfl rfl)
set_option maxRecDepth 100000 in
theorem ck_X5_9 : Cond.classLink RX5 9 "OilRound$House" ∈ oWL := (oWL_t (n := 22) rfl rfl)
set_option maxRecDepth 100000 in
theorem ck_X5_15 : Cond.classLink RX5 15 "OilRound$Route" ∈ oWL := (oWL_t (n := 24) rfl rfl)
set_option maxRecDepth 100000 in
theorem ck_X5_22 : Cond.classLink RX5 22 "OilRound$PlanText" ∈ oWL := (oWL_t (n := 53) rfl rfl)
set_option maxRecDepth 100000 in
theorem ck_X5_29 : Cond.classLink RX5 29 "OilRound$Asks" ∈ oWL := (oWL_t (n := 99) rfl rfl)
set_option maxRecDepth 100000 in
theorem ac_int : Cond.arrayClass .int ∈ oWL := (oWL_t (n := 52) rfl rfl)
set_option maxRecDepth 100000 in
theorem ac_byte : Cond.arrayClass .byte ∈ oWL := (oWL_t (n := 98) rfl rfl)
set_option maxRecDepth 100000 in
theorem ac_boolean : Cond.arrayClass .boolean ∈ oWL := (oWL_t (n := 811) rfl rfl)
/-- the shape: the cells that the two constructors made, and what points at them -/
def rfL : List (Nat × Nat × Nat) := [(0, 0, 1), (0, 1, 2), (0, 2, 8), (0, 3, 10), (2, 0, 3), (2, 1, 4), (2, 2, 5), (2, 3, 6), (2, 4, 7), (8, 0, 9), (10, 0, 11), (12, 2, 13), (12, 3, 14), (12, 4, 15), (12, 5, 16), (12, 6, 17), (12, 7, 18), (12, 8, 19), (12, 9, 20), (12, 10, 21), (12, 11, 22), (12, 12, 23), (12, 13, 24), (12, 14, 25), (12, 15, 26), (12, 25, 27), (12, 27, 28), (12, 28, 29), (12, 39, 30), (12, 40, 31), (12, 41, 32), (12, 42, 33), (12, 43, 34)]
def oSh (h : oH) : Prop := 35 ≤ h.1 ∧ ∀ q ∈ rfL, hR h q.1 q.2.1 = some q.2.2
theorem sh_0_0 {h : oH} (hs : oSh h) : hR h 0 0 = some 1 := hs.2 (0, 0, 1) (List.mem_of_getElem? (i := 0) rfl)
theorem sh_0_1 {h : oH} (hs : oSh h) : hR h 0 1 = some 2 := hs.2 (0, 1, 2) (List.mem_of_getElem? (i := 1) rfl)
theorem sh_0_2 {h : oH} (hs : oSh h) : hR h 0 2 = some 8 := hs.2 (0, 2, 8) (List.mem_of_getElem? (i := 2) rfl)
theorem sh_0_3 {h : oH} (hs : oSh h) : hR h 0 3 = some 10 := hs.2 (0, 3, 10) (List.mem_of_getElem? (i := 3) rfl)
theorem sh_2_0 {h : oH} (hs : oSh h) : hR h 2 0 = some 3 := hs.2 (2, 0, 3) (List.mem_of_getElem? (i := 4) rfl)
theorem sh_2_1 {h : oH} (hs : oSh h) : hR h 2 1 = some 4 := hs.2 (2, 1, 4) (List.mem_of_getElem? (i := 5) rfl)
theorem sh_2_2 {h : oH} (hs : oSh h) : hR h 2 2 = some 5 := hs.2 (2, 2, 5) (List.mem_of_getElem? (i := 6) rfl)
theorem sh_2_3 {h : oH} (hs : oSh h) : hR h 2 3 = some 6 := hs.2 (2, 3, 6) (List.mem_of_getElem? (i := 7) rfl)
theorem sh_2_4 {h : oH} (hs : oSh h) : hR h 2 4 = some 7 := hs.2 (2, 4, 7) (List.mem_of_getElem? (i := 8) rfl)
theorem sh_8_0 {h : oH} (hs : oSh h) : hR h 8 0 = some 9 := hs.2 (8, 0, 9) (List.mem_of_getElem? (i := 9) rfl)
theorem sh_10_0 {h : oH} (hs : oSh h) : hR h 10 0 = some 11 := hs.2 (10, 0, 11) (List.mem_of_getElem? (i := 10) rfl)
theorem sh_12_2 {h : oH} (hs : oSh h) : hR h 12 2 = some 13 := hs.2 (12, 2, 13) (List.mem_of_getElem? (i := 11) rfl)
theorem sh_12_3 {h : oH} (hs : oSh h) : hR h 12 3 = some 14 := hs.2 (12, 3, 14) (List.mem_of_getElem? (i := 12) rfl)
theorem sh_12_4 {h : oH} (hs : oSh h) : hR h 12 4 = some 15 := hs.2 (12, 4, 15) (List.mem_of_getElem? (i := 13) rfl)
theorem sh_12_5 {h : oH} (hs : oSh h) : hR h 12 5 = some 16 := hs.2 (12, 5, 16) (List.mem_of_getElem? (i := 14) rfl)
theorem sh_12_6 {h : oH} (hs : oSh h) : hR h 12 6 = some 17 := hs.2 (12, 6, 17) (List.mem_of_getElem? (i := 15) rfl)
theorem sh_12_7 {h : oH} (hs : oSh h) : hR h 12 7 = some 18 := hs.2 (12, 7, 18) (List.mem_of_getElem? (i := 16) rfl)
theorem sh_12_8 {h : oH} (hs : oSh h) : hR h 12 8 = some 19 := hs.2 (12, 8, 19) (List.mem_of_getElem? (i := 17) rfl)
theorem sh_12_9 {h : oH} (hs : oSh h) : hR h 12 9 = some 20 := hs.2 (12, 9, 20) (List.mem_of_getElem? (i := 18) rfl)
theorem sh_12_10 {h : oH} (hs : oSh h) : hR h 12 10 = some 21 := hs.2 (12, 10, 21) (List.mem_of_getElem? (i := 19) rfl)
theorem sh_12_11 {h : oH} (hs : oSh h) : hR h 12 11 = some 22 := hs.2 (12, 11, 22) (List.mem_of_getElem? (i := 20) rfl)
theorem sh_12_12 {h : oH} (hs : oSh h) : hR h 12 12 = some 23 := hs.2 (12, 12, 23) (List.mem_of_getElem? (i := 21) rfl)
theorem sh_12_13 {h : oH} (hs : oSh h) : hR h 12 13 = some 24 := hs.2 (12, 13, 24) (List.mem_of_getElem? (i := 22) rfl)
theorem sh_12_14 {h : oH} (hs : oSh h) : hR h 12 14 = some 25 := hs.2 (12, 14, 25) (List.mem_of_getElem? (i := 23) rfl)
theorem sh_12_15 {h : oH} (hs : oSh h) : hR h 12 15 = some 26 := hs.2 (12, 15, 26) (List.mem_of_getElem? (i := 24) rfl)
theorem sh_12_25 {h : oH} (hs : oSh h) : hR h 12 25 = some 27 := hs.2 (12, 25, 27) (List.mem_of_getElem? (i := 25) rfl)
theorem sh_12_27 {h : oH} (hs : oSh h) : hR h 12 27 = some 28 := hs.2 (12, 27, 28) (List.mem_of_getElem? (i := 26) rfl)
theorem sh_12_28 {h : oH} (hs : oSh h) : hR h 12 28 = some 29 := hs.2 (12, 28, 29) (List.mem_of_getElem? (i := 27) rfl)
theorem sh_12_39 {h : oH} (hs : oSh h) : hR h 12 39 = some 30 := hs.2 (12, 39, 30) (List.mem_of_getElem? (i := 28) rfl)
theorem sh_12_40 {h : oH} (hs : oSh h) : hR h 12 40 = some 31 := hs.2 (12, 40, 31) (List.mem_of_getElem? (i := 29) rfl)
theorem sh_12_41 {h : oH} (hs : oSh h) : hR h 12 41 = some 32 := hs.2 (12, 41, 32) (List.mem_of_getElem? (i := 30) rfl)
theorem sh_12_42 {h : oH} (hs : oSh h) : hR h 12 42 = some 33 := hs.2 (12, 42, 33) (List.mem_of_getElem? (i := 31) rfl)
theorem sh_12_43 {h : oH} (hs : oSh h) : hR h 12 43 = some 34 := hs.2 (12, 43, 34) (List.mem_of_getElem? (i := 32) rfl)
theorem q_lt {h : oH} {a : Nat} (hs : oSh h) (ha : a < 35) : a < h.1 := Nat.lt_of_lt_of_le ha hs.1
def b1 (P : Prop) [Decidable P] : Int32 := if P then 1 else 0
theorem b1_t {P : Prop} [Decidable P] (h : P) : b1 P = 1 := if_pos h
theorem b1_f {P : Prop} [Decidable P] (h : ¬ P) : b1 P = 0 := if_neg h
theorem b1_e0 {P : Prop} [Decidable P] : b1 P = 0 ↔ ¬ P := by
  unfold b1
  by_cases h : P
  · rw [if_pos h]; exact ⟨fun q => absurd q (by decide), fun q => absurd h q⟩
  · rw [if_neg h]; exact ⟨fun _ => h, fun _ => rfl⟩
theorem b1_n0 {P : Prop} [Decidable P] : ¬ b1 P = 0 ↔ P := by
  rw [b1_e0]
  exact Decidable.not_not
theorem b1_nar {P : Prop} [Decidable P] : narrow .boolean (.int (b1 P)) = .int (b1 P) := by
  by_cases h : P
  · rw [b1_t h]; rfl
  · rw [b1_f h]; rfl
theorem b1_iff {P Q : Prop} [Decidable P] [Decidable Q] (h : P ↔ Q) : b1 P = b1 Q := by
  by_cases hp : P
  · rw [b1_t hp, b1_t (h.mp hp)]
  · rw [b1_f hp, b1_f (fun q => hp (h.mpr q))]
end
section
theorem tA {a b : Int32} {x y : Int} (ha : a.toInt = x) (hb : b.toInt = y) (h : -2147483648 ≤ x + y ∧ x + y < 2147483648) : (a + b).toInt = x + y := by
  rw [Int32.toInt_add, ha, hb]
  exact Int.bmod_eq_of_le (by omega) (by omega)
theorem tS {a b : Int32} {x y : Int} (ha : a.toInt = x) (hb : b.toInt = y) (h : -2147483648 ≤ x - y ∧ x - y < 2147483648) : (a - b).toInt = x - y := by
  rw [Int32.toInt_sub, ha, hb]
  exact Int.bmod_eq_of_le (by omega) (by omega)
theorem tM {a b : Int32} {x y : Int} (ha : a.toInt = x) (hb : b.toInt = y) (h : -2147483648 ≤ x * y ∧ x * y < 2147483648) : (a * b).toInt = x * y := by
  rw [Int32.toInt_mul, ha, hb]
  exact Int.bmod_eq_of_le (by omega) (by omega)
theorem tI2L {a : Int32} {x : Int} (ha : a.toInt = x) : a.toInt64.toInt = x := by rw [Int32.toInt_toInt64, ha]
theorem tB (x : Int32) : -2147483648 ≤ x.toInt ∧ x.toInt < 2147483648 := by
  have h1 := Int32.le_toInt x
  have h2 := Int32.toInt_lt x
  omega
theorem er_t {P : Prop} [Decidable P] (h : P) : some (Value.int (b1 P)) = some (.int 1) := by rw [b1_t h]
theorem er_f {P : Prop} [Decidable P] (h : ¬ P) : some (Value.int (b1 P)) = some (.int 0) := by rw [b1_f h]
theorem er_b {P Q : Prop} [Decidable P] [Decidable Q] (h : P ↔ Q) : some (Value.int (b1 P)) = some (.int (b1 Q)) := by rw [b1_iff h]
section OB
variable {G : oG} {M : oM} {p : Program} {l : Launch} {e : Env} {R : Room} {s : State} {m : MethodId} {args : Array Value} {below : List Frame} {meth : Method} {c : Code} {Z : State → Prop} {n0 nF pc : Nat} {L : List (Option Value)} {S : List Value} {h : oH}
theorem t_if_eq (C : oC G M n0 nF p l R s m args meth c) {x : Int32} {a : Int} {off : Int} (tgt : Nat) (ht : (pc : Int) + off = (tgt : Int)) (hx : x.toInt = a) (hd : decode M.2.1 pc = .ok (.ifCond .eq off, 3)) (kt : a = 0 → oS G M p l e R s m args below meth c Z n0 tgt L S h) (kf : ¬ a = 0 → oS G M p l e R s m args below meth c Z n0 (pc + 3) L S h) : oS G M p l e R s m args below meth c Z n0 pc L (.int x :: S) h := by
  subst hx
  exact r_if_eq C tgt ht hd (fun q => kt (congrArg Int32.toInt q)) (fun q => kf (fun z => q (Int32.toInt_inj.mp z)))
theorem j_if_eq0 (C : oC G M n0 nF p l R s m args meth c) {x : Int32} {a : Int} {off off2 : Int} (tgt : Nat) (ht : (pc : Int) + off = (tgt : Int)) (hJ : (pc : Int) + 4 + off2 = (tgt : Int) + 1) (hx : x.toInt = a) (hd : decode M.2.1 pc = .ok (.ifCond .eq off, 3)) (hd1 : decode M.2.1 (pc + 3) = .ok (.iconst 1, 1)) (hd2 : decode M.2.1 (pc + 4) = .ok (.goto off2, 3)) (hd3 : decode M.2.1 tgt = .ok (.iconst 0, 1)) (k : oS G M p l e R s m args below meth c Z n0 (tgt + 1) L (.int (b1 (¬ a = 0)) :: S) h) : oS G M p l e R s m args below meth c Z n0 pc L (.int x :: S) h := by
  refine t_if_eq C tgt ht hx hd (fun q => ?_) (fun q => ?_)
  · refine r_iconstv C 0 rfl hd3 ?_
    rw [b1_f (by omega)] at k
    exact k
  · refine r_iconstv C 1 rfl hd1 (r_goto C (tgt + 1) (by omega) hd2 ?_)
    rw [b1_t q] at k
    exact k
theorem j_if_eq1 (C : oC G M n0 nF p l R s m args meth c) {x : Int32} {a : Int} {off off2 : Int} (tgt : Nat) (ht : (pc : Int) + off = (tgt : Int)) (hJ : (pc : Int) + 4 + off2 = (tgt : Int) + 1) (hx : x.toInt = a) (hd : decode M.2.1 pc = .ok (.ifCond .eq off, 3)) (hd1 : decode M.2.1 (pc + 3) = .ok (.iconst 0, 1)) (hd2 : decode M.2.1 (pc + 4) = .ok (.goto off2, 3)) (hd3 : decode M.2.1 tgt = .ok (.iconst 1, 1)) (k : oS G M p l e R s m args below meth c Z n0 (tgt + 1) L (.int (b1 (a = 0)) :: S) h) : oS G M p l e R s m args below meth c Z n0 pc L (.int x :: S) h := by
  refine t_if_eq C tgt ht hx hd (fun q => ?_) (fun q => ?_)
  · refine r_iconstv C 1 rfl hd3 ?_
    rw [b1_t q] at k
    exact k
  · refine r_iconstv C 0 rfl hd1 (r_goto C (tgt + 1) (by omega) hd2 ?_)
    rw [b1_f (by omega)] at k
    exact k
theorem t_icmp_eq (C : oC G M n0 nF p l R s m args meth c) {x y : Int32} {a b : Int} {off : Int} (tgt : Nat) (ht : (pc : Int) + off = (tgt : Int)) (hx : x.toInt = a) (hy : y.toInt = b) (hd : decode M.2.1 pc = .ok (.if_icmp .eq off, 3)) (kt : a = b → oS G M p l e R s m args below meth c Z n0 tgt L S h) (kf : ¬ a = b → oS G M p l e R s m args below meth c Z n0 (pc + 3) L S h) : oS G M p l e R s m args below meth c Z n0 pc L (.int y :: .int x :: S) h := by
  subst hx; subst hy
  exact r_icmp_eq C tgt ht hd (fun q => kt (congrArg Int32.toInt q)) (fun q => kf (fun z => q (Int32.toInt_inj.mp z)))
theorem j_icmp_eq0 (C : oC G M n0 nF p l R s m args meth c) {x y : Int32} {a b : Int} {off off2 : Int} (tgt : Nat) (ht : (pc : Int) + off = (tgt : Int)) (hJ : (pc : Int) + 4 + off2 = (tgt : Int) + 1) (hx : x.toInt = a) (hy : y.toInt = b) (hd : decode M.2.1 pc = .ok (.if_icmp .eq off, 3)) (hd1 : decode M.2.1 (pc + 3) = .ok (.iconst 1, 1)) (hd2 : decode M.2.1 (pc + 4) = .ok (.goto off2, 3)) (hd3 : decode M.2.1 tgt = .ok (.iconst 0, 1)) (k : oS G M p l e R s m args below meth c Z n0 (tgt + 1) L (.int (b1 (¬ a = b)) :: S) h) : oS G M p l e R s m args below meth c Z n0 pc L (.int y :: .int x :: S) h := by
  refine t_icmp_eq C tgt ht hx hy hd (fun q => ?_) (fun q => ?_)
  · refine r_iconstv C 0 rfl hd3 ?_
    rw [b1_f (by omega)] at k
    exact k
  · refine r_iconstv C 1 rfl hd1 (r_goto C (tgt + 1) (by omega) hd2 ?_)
    rw [b1_t q] at k
    exact k
theorem j_icmp_eq1 (C : oC G M n0 nF p l R s m args meth c) {x y : Int32} {a b : Int} {off off2 : Int} (tgt : Nat) (ht : (pc : Int) + off = (tgt : Int)) (hJ : (pc : Int) + 4 + off2 = (tgt : Int) + 1) (hx : x.toInt = a) (hy : y.toInt = b) (hd : decode M.2.1 pc = .ok (.if_icmp .eq off, 3)) (hd1 : decode M.2.1 (pc + 3) = .ok (.iconst 0, 1)) (hd2 : decode M.2.1 (pc + 4) = .ok (.goto off2, 3)) (hd3 : decode M.2.1 tgt = .ok (.iconst 1, 1)) (k : oS G M p l e R s m args below meth c Z n0 (tgt + 1) L (.int (b1 (a = b)) :: S) h) : oS G M p l e R s m args below meth c Z n0 pc L (.int y :: .int x :: S) h := by
  refine t_icmp_eq C tgt ht hx hy hd (fun q => ?_) (fun q => ?_)
  · refine r_iconstv C 1 rfl hd3 ?_
    rw [b1_t q] at k
    exact k
  · refine r_iconstv C 0 rfl hd1 (r_goto C (tgt + 1) (by omega) hd2 ?_)
    rw [b1_f (by omega)] at k
    exact k
theorem t_if_ne (C : oC G M n0 nF p l R s m args meth c) {x : Int32} {a : Int} {off : Int} (tgt : Nat) (ht : (pc : Int) + off = (tgt : Int)) (hx : x.toInt = a) (hd : decode M.2.1 pc = .ok (.ifCond .ne off, 3)) (kt : ¬ a = 0 → oS G M p l e R s m args below meth c Z n0 tgt L S h) (kf : a = 0 → oS G M p l e R s m args below meth c Z n0 (pc + 3) L S h) : oS G M p l e R s m args below meth c Z n0 pc L (.int x :: S) h := by
  subst hx
  exact r_if_ne C tgt ht hd (fun q => kt (fun z => q (Int32.toInt_inj.mp z))) (fun q => kf (congrArg Int32.toInt q))
theorem j_if_ne0 (C : oC G M n0 nF p l R s m args meth c) {x : Int32} {a : Int} {off off2 : Int} (tgt : Nat) (ht : (pc : Int) + off = (tgt : Int)) (hJ : (pc : Int) + 4 + off2 = (tgt : Int) + 1) (hx : x.toInt = a) (hd : decode M.2.1 pc = .ok (.ifCond .ne off, 3)) (hd1 : decode M.2.1 (pc + 3) = .ok (.iconst 1, 1)) (hd2 : decode M.2.1 (pc + 4) = .ok (.goto off2, 3)) (hd3 : decode M.2.1 tgt = .ok (.iconst 0, 1)) (k : oS G M p l e R s m args below meth c Z n0 (tgt + 1) L (.int (b1 (a = 0)) :: S) h) : oS G M p l e R s m args below meth c Z n0 pc L (.int x :: S) h := by
  refine t_if_ne C tgt ht hx hd (fun q => ?_) (fun q => ?_)
  · refine r_iconstv C 0 rfl hd3 ?_
    rw [b1_f (by omega)] at k
    exact k
  · refine r_iconstv C 1 rfl hd1 (r_goto C (tgt + 1) (by omega) hd2 ?_)
    rw [b1_t q] at k
    exact k
theorem j_if_ne1 (C : oC G M n0 nF p l R s m args meth c) {x : Int32} {a : Int} {off off2 : Int} (tgt : Nat) (ht : (pc : Int) + off = (tgt : Int)) (hJ : (pc : Int) + 4 + off2 = (tgt : Int) + 1) (hx : x.toInt = a) (hd : decode M.2.1 pc = .ok (.ifCond .ne off, 3)) (hd1 : decode M.2.1 (pc + 3) = .ok (.iconst 0, 1)) (hd2 : decode M.2.1 (pc + 4) = .ok (.goto off2, 3)) (hd3 : decode M.2.1 tgt = .ok (.iconst 1, 1)) (k : oS G M p l e R s m args below meth c Z n0 (tgt + 1) L (.int (b1 (¬ a = 0)) :: S) h) : oS G M p l e R s m args below meth c Z n0 pc L (.int x :: S) h := by
  refine t_if_ne C tgt ht hx hd (fun q => ?_) (fun q => ?_)
  · refine r_iconstv C 1 rfl hd3 ?_
    rw [b1_t q] at k
    exact k
  · refine r_iconstv C 0 rfl hd1 (r_goto C (tgt + 1) (by omega) hd2 ?_)
    rw [b1_f (by omega)] at k
    exact k
theorem t_icmp_ne (C : oC G M n0 nF p l R s m args meth c) {x y : Int32} {a b : Int} {off : Int} (tgt : Nat) (ht : (pc : Int) + off = (tgt : Int)) (hx : x.toInt = a) (hy : y.toInt = b) (hd : decode M.2.1 pc = .ok (.if_icmp .ne off, 3)) (kt : ¬ a = b → oS G M p l e R s m args below meth c Z n0 tgt L S h) (kf : a = b → oS G M p l e R s m args below meth c Z n0 (pc + 3) L S h) : oS G M p l e R s m args below meth c Z n0 pc L (.int y :: .int x :: S) h := by
  subst hx; subst hy
  exact r_icmp_ne C tgt ht hd (fun q => kt (fun z => q (Int32.toInt_inj.mp z))) (fun q => kf (congrArg Int32.toInt q))
theorem j_icmp_ne0 (C : oC G M n0 nF p l R s m args meth c) {x y : Int32} {a b : Int} {off off2 : Int} (tgt : Nat) (ht : (pc : Int) + off = (tgt : Int)) (hJ : (pc : Int) + 4 + off2 = (tgt : Int) + 1) (hx : x.toInt = a) (hy : y.toInt = b) (hd : decode M.2.1 pc = .ok (.if_icmp .ne off, 3)) (hd1 : decode M.2.1 (pc + 3) = .ok (.iconst 1, 1)) (hd2 : decode M.2.1 (pc + 4) = .ok (.goto off2, 3)) (hd3 : decode M.2.1 tgt = .ok (.iconst 0, 1)) (k : oS G M p l e R s m args below meth c Z n0 (tgt + 1) L (.int (b1 (a = b)) :: S) h) : oS G M p l e R s m args below meth c Z n0 pc L (.int y :: .int x :: S) h := by
  refine t_icmp_ne C tgt ht hx hy hd (fun q => ?_) (fun q => ?_)
  · refine r_iconstv C 0 rfl hd3 ?_
    rw [b1_f (by omega)] at k
    exact k
  · refine r_iconstv C 1 rfl hd1 (r_goto C (tgt + 1) (by omega) hd2 ?_)
    rw [b1_t q] at k
    exact k
theorem j_icmp_ne1 (C : oC G M n0 nF p l R s m args meth c) {x y : Int32} {a b : Int} {off off2 : Int} (tgt : Nat) (ht : (pc : Int) + off = (tgt : Int)) (hJ : (pc : Int) + 4 + off2 = (tgt : Int) + 1) (hx : x.toInt = a) (hy : y.toInt = b) (hd : decode M.2.1 pc = .ok (.if_icmp .ne off, 3)) (hd1 : decode M.2.1 (pc + 3) = .ok (.iconst 0, 1)) (hd2 : decode M.2.1 (pc + 4) = .ok (.goto off2, 3)) (hd3 : decode M.2.1 tgt = .ok (.iconst 1, 1)) (k : oS G M p l e R s m args below meth c Z n0 (tgt + 1) L (.int (b1 (¬ a = b)) :: S) h) : oS G M p l e R s m args below meth c Z n0 pc L (.int y :: .int x :: S) h := by
  refine t_icmp_ne C tgt ht hx hy hd (fun q => ?_) (fun q => ?_)
  · refine r_iconstv C 1 rfl hd3 ?_
    rw [b1_t q] at k
    exact k
  · refine r_iconstv C 0 rfl hd1 (r_goto C (tgt + 1) (by omega) hd2 ?_)
    rw [b1_f (by omega)] at k
    exact k
theorem t_if_lt (C : oC G M n0 nF p l R s m args meth c) {x : Int32} {a : Int} {off : Int} (tgt : Nat) (ht : (pc : Int) + off = (tgt : Int)) (hx : x.toInt = a) (hd : decode M.2.1 pc = .ok (.ifCond .lt off, 3)) (kt : a < 0 → oS G M p l e R s m args below meth c Z n0 tgt L S h) (kf : 0 ≤ a → oS G M p l e R s m args below meth c Z n0 (pc + 3) L S h) : oS G M p l e R s m args below meth c Z n0 pc L (.int x :: S) h := by
  subst hx
  exact r_if_lt C tgt ht hd (fun q => kt (Int32.lt_iff_toInt_lt.mp q)) (fun q => kf (Int.not_lt.mp (fun z => q (Int32.lt_iff_toInt_lt.mpr z))))
theorem j_if_lt0 (C : oC G M n0 nF p l R s m args meth c) {x : Int32} {a : Int} {off off2 : Int} (tgt : Nat) (ht : (pc : Int) + off = (tgt : Int)) (hJ : (pc : Int) + 4 + off2 = (tgt : Int) + 1) (hx : x.toInt = a) (hd : decode M.2.1 pc = .ok (.ifCond .lt off, 3)) (hd1 : decode M.2.1 (pc + 3) = .ok (.iconst 1, 1)) (hd2 : decode M.2.1 (pc + 4) = .ok (.goto off2, 3)) (hd3 : decode M.2.1 tgt = .ok (.iconst 0, 1)) (k : oS G M p l e R s m args below meth c Z n0 (tgt + 1) L (.int (b1 (0 ≤ a)) :: S) h) : oS G M p l e R s m args below meth c Z n0 pc L (.int x :: S) h := by
  refine t_if_lt C tgt ht hx hd (fun q => ?_) (fun q => ?_)
  · refine r_iconstv C 0 rfl hd3 ?_
    rw [b1_f (by omega)] at k
    exact k
  · refine r_iconstv C 1 rfl hd1 (r_goto C (tgt + 1) (by omega) hd2 ?_)
    rw [b1_t q] at k
    exact k
theorem j_if_lt1 (C : oC G M n0 nF p l R s m args meth c) {x : Int32} {a : Int} {off off2 : Int} (tgt : Nat) (ht : (pc : Int) + off = (tgt : Int)) (hJ : (pc : Int) + 4 + off2 = (tgt : Int) + 1) (hx : x.toInt = a) (hd : decode M.2.1 pc = .ok (.ifCond .lt off, 3)) (hd1 : decode M.2.1 (pc + 3) = .ok (.iconst 0, 1)) (hd2 : decode M.2.1 (pc + 4) = .ok (.goto off2, 3)) (hd3 : decode M.2.1 tgt = .ok (.iconst 1, 1)) (k : oS G M p l e R s m args below meth c Z n0 (tgt + 1) L (.int (b1 (a < 0)) :: S) h) : oS G M p l e R s m args below meth c Z n0 pc L (.int x :: S) h := by
  refine t_if_lt C tgt ht hx hd (fun q => ?_) (fun q => ?_)
  · refine r_iconstv C 1 rfl hd3 ?_
    rw [b1_t q] at k
    exact k
  · refine r_iconstv C 0 rfl hd1 (r_goto C (tgt + 1) (by omega) hd2 ?_)
    rw [b1_f (by omega)] at k
    exact k
theorem t_icmp_lt (C : oC G M n0 nF p l R s m args meth c) {x y : Int32} {a b : Int} {off : Int} (tgt : Nat) (ht : (pc : Int) + off = (tgt : Int)) (hx : x.toInt = a) (hy : y.toInt = b) (hd : decode M.2.1 pc = .ok (.if_icmp .lt off, 3)) (kt : a < b → oS G M p l e R s m args below meth c Z n0 tgt L S h) (kf : b ≤ a → oS G M p l e R s m args below meth c Z n0 (pc + 3) L S h) : oS G M p l e R s m args below meth c Z n0 pc L (.int y :: .int x :: S) h := by
  subst hx; subst hy
  exact r_icmp_lt C tgt ht hd (fun q => kt (Int32.lt_iff_toInt_lt.mp q)) (fun q => kf (Int.not_lt.mp (fun z => q (Int32.lt_iff_toInt_lt.mpr z))))
theorem j_icmp_lt0 (C : oC G M n0 nF p l R s m args meth c) {x y : Int32} {a b : Int} {off off2 : Int} (tgt : Nat) (ht : (pc : Int) + off = (tgt : Int)) (hJ : (pc : Int) + 4 + off2 = (tgt : Int) + 1) (hx : x.toInt = a) (hy : y.toInt = b) (hd : decode M.2.1 pc = .ok (.if_icmp .lt off, 3)) (hd1 : decode M.2.1 (pc + 3) = .ok (.iconst 1, 1)) (hd2 : decode M.2.1 (pc + 4) = .ok (.goto off2, 3)) (hd3 : decode M.2.1 tgt = .ok (.iconst 0, 1)) (k : oS G M p l e R s m args below meth c Z n0 (tgt + 1) L (.int (b1 (b ≤ a)) :: S) h) : oS G M p l e R s m args below meth c Z n0 pc L (.int y :: .int x :: S) h := by
  refine t_icmp_lt C tgt ht hx hy hd (fun q => ?_) (fun q => ?_)
  · refine r_iconstv C 0 rfl hd3 ?_
    rw [b1_f (by omega)] at k
    exact k
  · refine r_iconstv C 1 rfl hd1 (r_goto C (tgt + 1) (by omega) hd2 ?_)
    rw [b1_t q] at k
    exact k
theorem j_icmp_lt1 (C : oC G M n0 nF p l R s m args meth c) {x y : Int32} {a b : Int} {off off2 : Int} (tgt : Nat) (ht : (pc : Int) + off = (tgt : Int)) (hJ : (pc : Int) + 4 + off2 = (tgt : Int) + 1) (hx : x.toInt = a) (hy : y.toInt = b) (hd : decode M.2.1 pc = .ok (.if_icmp .lt off, 3)) (hd1 : decode M.2.1 (pc + 3) = .ok (.iconst 0, 1)) (hd2 : decode M.2.1 (pc + 4) = .ok (.goto off2, 3)) (hd3 : decode M.2.1 tgt = .ok (.iconst 1, 1)) (k : oS G M p l e R s m args below meth c Z n0 (tgt + 1) L (.int (b1 (a < b)) :: S) h) : oS G M p l e R s m args below meth c Z n0 pc L (.int y :: .int x :: S) h := by
  refine t_icmp_lt C tgt ht hx hy hd (fun q => ?_) (fun q => ?_)
  · refine r_iconstv C 1 rfl hd3 ?_
    rw [b1_t q] at k
    exact k
  · refine r_iconstv C 0 rfl hd1 (r_goto C (tgt + 1) (by omega) hd2 ?_)
    rw [b1_f (by omega)] at k
    exact k
theorem t_if_ge (C : oC G M n0 nF p l R s m args meth c) {x : Int32} {a : Int} {off : Int} (tgt : Nat) (ht : (pc : Int) + off = (tgt : Int)) (hx : x.toInt = a) (hd : decode M.2.1 pc = .ok (.ifCond .ge off, 3)) (kt : 0 ≤ a → oS G M p l e R s m args below meth c Z n0 tgt L S h) (kf : a < 0 → oS G M p l e R s m args below meth c Z n0 (pc + 3) L S h) : oS G M p l e R s m args below meth c Z n0 pc L (.int x :: S) h := by
  subst hx
  exact r_if_ge C tgt ht hd (fun q => kt (Int32.le_iff_toInt_le.mp q)) (fun q => kf (Int.not_le.mp (fun z => q (Int32.le_iff_toInt_le.mpr z))))
theorem j_if_ge0 (C : oC G M n0 nF p l R s m args meth c) {x : Int32} {a : Int} {off off2 : Int} (tgt : Nat) (ht : (pc : Int) + off = (tgt : Int)) (hJ : (pc : Int) + 4 + off2 = (tgt : Int) + 1) (hx : x.toInt = a) (hd : decode M.2.1 pc = .ok (.ifCond .ge off, 3)) (hd1 : decode M.2.1 (pc + 3) = .ok (.iconst 1, 1)) (hd2 : decode M.2.1 (pc + 4) = .ok (.goto off2, 3)) (hd3 : decode M.2.1 tgt = .ok (.iconst 0, 1)) (k : oS G M p l e R s m args below meth c Z n0 (tgt + 1) L (.int (b1 (a < 0)) :: S) h) : oS G M p l e R s m args below meth c Z n0 pc L (.int x :: S) h := by
  refine t_if_ge C tgt ht hx hd (fun q => ?_) (fun q => ?_)
  · refine r_iconstv C 0 rfl hd3 ?_
    rw [b1_f (by omega)] at k
    exact k
  · refine r_iconstv C 1 rfl hd1 (r_goto C (tgt + 1) (by omega) hd2 ?_)
    rw [b1_t q] at k
    exact k
theorem j_if_ge1 (C : oC G M n0 nF p l R s m args meth c) {x : Int32} {a : Int} {off off2 : Int} (tgt : Nat) (ht : (pc : Int) + off = (tgt : Int)) (hJ : (pc : Int) + 4 + off2 = (tgt : Int) + 1) (hx : x.toInt = a) (hd : decode M.2.1 pc = .ok (.ifCond .ge off, 3)) (hd1 : decode M.2.1 (pc + 3) = .ok (.iconst 0, 1)) (hd2 : decode M.2.1 (pc + 4) = .ok (.goto off2, 3)) (hd3 : decode M.2.1 tgt = .ok (.iconst 1, 1)) (k : oS G M p l e R s m args below meth c Z n0 (tgt + 1) L (.int (b1 (0 ≤ a)) :: S) h) : oS G M p l e R s m args below meth c Z n0 pc L (.int x :: S) h := by
  refine t_if_ge C tgt ht hx hd (fun q => ?_) (fun q => ?_)
  · refine r_iconstv C 1 rfl hd3 ?_
    rw [b1_t q] at k
    exact k
  · refine r_iconstv C 0 rfl hd1 (r_goto C (tgt + 1) (by omega) hd2 ?_)
    rw [b1_f (by omega)] at k
    exact k
theorem t_icmp_ge (C : oC G M n0 nF p l R s m args meth c) {x y : Int32} {a b : Int} {off : Int} (tgt : Nat) (ht : (pc : Int) + off = (tgt : Int)) (hx : x.toInt = a) (hy : y.toInt = b) (hd : decode M.2.1 pc = .ok (.if_icmp .ge off, 3)) (kt : b ≤ a → oS G M p l e R s m args below meth c Z n0 tgt L S h) (kf : a < b → oS G M p l e R s m args below meth c Z n0 (pc + 3) L S h) : oS G M p l e R s m args below meth c Z n0 pc L (.int y :: .int x :: S) h := by
  subst hx; subst hy
  exact r_icmp_ge C tgt ht hd (fun q => kt (Int32.le_iff_toInt_le.mp q)) (fun q => kf (Int.not_le.mp (fun z => q (Int32.le_iff_toInt_le.mpr z))))
theorem j_icmp_ge0 (C : oC G M n0 nF p l R s m args meth c) {x y : Int32} {a b : Int} {off off2 : Int} (tgt : Nat) (ht : (pc : Int) + off = (tgt : Int)) (hJ : (pc : Int) + 4 + off2 = (tgt : Int) + 1) (hx : x.toInt = a) (hy : y.toInt = b) (hd : decode M.2.1 pc = .ok (.if_icmp .ge off, 3)) (hd1 : decode M.2.1 (pc + 3) = .ok (.iconst 1, 1)) (hd2 : decode M.2.1 (pc + 4) = .ok (.goto off2, 3)) (hd3 : decode M.2.1 tgt = .ok (.iconst 0, 1)) (k : oS G M p l e R s m args below meth c Z n0 (tgt + 1) L (.int (b1 (a < b)) :: S) h) : oS G M p l e R s m args below meth c Z n0 pc L (.int y :: .int x :: S) h := by
  refine t_icmp_ge C tgt ht hx hy hd (fun q => ?_) (fun q => ?_)
  · refine r_iconstv C 0 rfl hd3 ?_
    rw [b1_f (by omega)] at k
    exact k
  · refine r_iconstv C 1 rfl hd1 (r_goto C (tgt + 1) (by omega) hd2 ?_)
    rw [b1_t q] at k
    exact k
theorem j_icmp_ge1 (C : oC G M n0 nF p l R s m args meth c) {x y : Int32} {a b : Int} {off off2 : Int} (tgt : Nat) (ht : (pc : Int) + off = (tgt : Int)) (hJ : (pc : Int) + 4 + off2 = (tgt : Int) + 1) (hx : x.toInt = a) (hy : y.toInt = b) (hd : decode M.2.1 pc = .ok (.if_icmp .ge off, 3)) (hd1 : decode M.2.1 (pc + 3) = .ok (.iconst 0, 1)) (hd2 : decode M.2.1 (pc + 4) = .ok (.goto off2, 3)) (hd3 : decode M.2.1 tgt = .ok (.iconst 1, 1)) (k : oS G M p l e R s m args below meth c Z n0 (tgt + 1) L (.int (b1 (b ≤ a)) :: S) h) : oS G M p l e R s m args below meth c Z n0 pc L (.int y :: .int x :: S) h := by
  refine t_icmp_ge C tgt ht hx hy hd (fun q => ?_) (fun q => ?_)
  · refine r_iconstv C 1 rfl hd3 ?_
    rw [b1_t q] at k
    exact k
  · refine r_iconstv C 0 rfl hd1 (r_goto C (tgt + 1) (by omega) hd2 ?_)
    rw [b1_f (by omega)] at k
    exact k
theorem t_if_gt (C : oC G M n0 nF p l R s m args meth c) {x : Int32} {a : Int} {off : Int} (tgt : Nat) (ht : (pc : Int) + off = (tgt : Int)) (hx : x.toInt = a) (hd : decode M.2.1 pc = .ok (.ifCond .gt off, 3)) (kt : 0 < a → oS G M p l e R s m args below meth c Z n0 tgt L S h) (kf : a ≤ 0 → oS G M p l e R s m args below meth c Z n0 (pc + 3) L S h) : oS G M p l e R s m args below meth c Z n0 pc L (.int x :: S) h := by
  subst hx
  exact r_if_gt C tgt ht hd (fun q => kt (Int32.lt_iff_toInt_lt.mp q)) (fun q => kf (Int.not_lt.mp (fun z => q (Int32.lt_iff_toInt_lt.mpr z))))
theorem j_if_gt0 (C : oC G M n0 nF p l R s m args meth c) {x : Int32} {a : Int} {off off2 : Int} (tgt : Nat) (ht : (pc : Int) + off = (tgt : Int)) (hJ : (pc : Int) + 4 + off2 = (tgt : Int) + 1) (hx : x.toInt = a) (hd : decode M.2.1 pc = .ok (.ifCond .gt off, 3)) (hd1 : decode M.2.1 (pc + 3) = .ok (.iconst 1, 1)) (hd2 : decode M.2.1 (pc + 4) = .ok (.goto off2, 3)) (hd3 : decode M.2.1 tgt = .ok (.iconst 0, 1)) (k : oS G M p l e R s m args below meth c Z n0 (tgt + 1) L (.int (b1 (a ≤ 0)) :: S) h) : oS G M p l e R s m args below meth c Z n0 pc L (.int x :: S) h := by
  refine t_if_gt C tgt ht hx hd (fun q => ?_) (fun q => ?_)
  · refine r_iconstv C 0 rfl hd3 ?_
    rw [b1_f (by omega)] at k
    exact k
  · refine r_iconstv C 1 rfl hd1 (r_goto C (tgt + 1) (by omega) hd2 ?_)
    rw [b1_t q] at k
    exact k
theorem j_if_gt1 (C : oC G M n0 nF p l R s m args meth c) {x : Int32} {a : Int} {off off2 : Int} (tgt : Nat) (ht : (pc : Int) + off = (tgt : Int)) (hJ : (pc : Int) + 4 + off2 = (tgt : Int) + 1) (hx : x.toInt = a) (hd : decode M.2.1 pc = .ok (.ifCond .gt off, 3)) (hd1 : decode M.2.1 (pc + 3) = .ok (.iconst 0, 1)) (hd2 : decode M.2.1 (pc + 4) = .ok (.goto off2, 3)) (hd3 : decode M.2.1 tgt = .ok (.iconst 1, 1)) (k : oS G M p l e R s m args below meth c Z n0 (tgt + 1) L (.int (b1 (0 < a)) :: S) h) : oS G M p l e R s m args below meth c Z n0 pc L (.int x :: S) h := by
  refine t_if_gt C tgt ht hx hd (fun q => ?_) (fun q => ?_)
  · refine r_iconstv C 1 rfl hd3 ?_
    rw [b1_t q] at k
    exact k
  · refine r_iconstv C 0 rfl hd1 (r_goto C (tgt + 1) (by omega) hd2 ?_)
    rw [b1_f (by omega)] at k
    exact k
theorem t_icmp_gt (C : oC G M n0 nF p l R s m args meth c) {x y : Int32} {a b : Int} {off : Int} (tgt : Nat) (ht : (pc : Int) + off = (tgt : Int)) (hx : x.toInt = a) (hy : y.toInt = b) (hd : decode M.2.1 pc = .ok (.if_icmp .gt off, 3)) (kt : b < a → oS G M p l e R s m args below meth c Z n0 tgt L S h) (kf : a ≤ b → oS G M p l e R s m args below meth c Z n0 (pc + 3) L S h) : oS G M p l e R s m args below meth c Z n0 pc L (.int y :: .int x :: S) h := by
  subst hx; subst hy
  exact r_icmp_gt C tgt ht hd (fun q => kt (Int32.lt_iff_toInt_lt.mp q)) (fun q => kf (Int.not_lt.mp (fun z => q (Int32.lt_iff_toInt_lt.mpr z))))
theorem j_icmp_gt0 (C : oC G M n0 nF p l R s m args meth c) {x y : Int32} {a b : Int} {off off2 : Int} (tgt : Nat) (ht : (pc : Int) + off = (tgt : Int)) (hJ : (pc : Int) + 4 + off2 = (tgt : Int) + 1) (hx : x.toInt = a) (hy : y.toInt = b) (hd : decode M.2.1 pc = .ok (.if_icmp .gt off, 3)) (hd1 : decode M.2.1 (pc + 3) = .ok (.iconst 1, 1)) (hd2 : decode M.2.1 (pc + 4) = .ok (.goto off2, 3)) (hd3 : decode M.2.1 tgt = .ok (.iconst 0, 1)) (k : oS G M p l e R s m args below meth c Z n0 (tgt + 1) L (.int (b1 (a ≤ b)) :: S) h) : oS G M p l e R s m args below meth c Z n0 pc L (.int y :: .int x :: S) h := by
  refine t_icmp_gt C tgt ht hx hy hd (fun q => ?_) (fun q => ?_)
  · refine r_iconstv C 0 rfl hd3 ?_
    rw [b1_f (by omega)] at k
    exact k
  · refine r_iconstv C 1 rfl hd1 (r_goto C (tgt + 1) (by omega) hd2 ?_)
    rw [b1_t q] at k
    exact k
theorem j_icmp_gt1 (C : oC G M n0 nF p l R s m args meth c) {x y : Int32} {a b : Int} {off off2 : Int} (tgt : Nat) (ht : (pc : Int) + off = (tgt : Int)) (hJ : (pc : Int) + 4 + off2 = (tgt : Int) + 1) (hx : x.toInt = a) (hy : y.toInt = b) (hd : decode M.2.1 pc = .ok (.if_icmp .gt off, 3)) (hd1 : decode M.2.1 (pc + 3) = .ok (.iconst 0, 1)) (hd2 : decode M.2.1 (pc + 4) = .ok (.goto off2, 3)) (hd3 : decode M.2.1 tgt = .ok (.iconst 1, 1)) (k : oS G M p l e R s m args below meth c Z n0 (tgt + 1) L (.int (b1 (b < a)) :: S) h) : oS G M p l e R s m args below meth c Z n0 pc L (.int y :: .int x :: S) h := by
  refine t_icmp_gt C tgt ht hx hy hd (fun q => ?_) (fun q => ?_)
  · refine r_iconstv C 1 rfl hd3 ?_
    rw [b1_t q] at k
    exact k
  · refine r_iconstv C 0 rfl hd1 (r_goto C (tgt + 1) (by omega) hd2 ?_)
    rw [b1_f (by omega)] at k
    exact k
theorem t_if_le (C : oC G M n0 nF p l R s m args meth c) {x : Int32} {a : Int} {off : Int} (tgt : Nat) (ht : (pc : Int) + off = (tgt : Int)) (hx : x.toInt = a) (hd : decode M.2.1 pc = .ok (.ifCond .le off, 3)) (kt : a ≤ 0 → oS G M p l e R s m args below meth c Z n0 tgt L S h) (kf : 0 < a → oS G M p l e R s m args below meth c Z n0 (pc + 3) L S h) : oS G M p l e R s m args below meth c Z n0 pc L (.int x :: S) h := by
  subst hx
  exact r_if_le C tgt ht hd (fun q => kt (Int32.le_iff_toInt_le.mp q)) (fun q => kf (Int.not_le.mp (fun z => q (Int32.le_iff_toInt_le.mpr z))))
theorem j_if_le0 (C : oC G M n0 nF p l R s m args meth c) {x : Int32} {a : Int} {off off2 : Int} (tgt : Nat) (ht : (pc : Int) + off = (tgt : Int)) (hJ : (pc : Int) + 4 + off2 = (tgt : Int) + 1) (hx : x.toInt = a) (hd : decode M.2.1 pc = .ok (.ifCond .le off, 3)) (hd1 : decode M.2.1 (pc + 3) = .ok (.iconst 1, 1)) (hd2 : decode M.2.1 (pc + 4) = .ok (.goto off2, 3)) (hd3 : decode M.2.1 tgt = .ok (.iconst 0, 1)) (k : oS G M p l e R s m args below meth c Z n0 (tgt + 1) L (.int (b1 (0 < a)) :: S) h) : oS G M p l e R s m args below meth c Z n0 pc L (.int x :: S) h := by
  refine t_if_le C tgt ht hx hd (fun q => ?_) (fun q => ?_)
  · refine r_iconstv C 0 rfl hd3 ?_
    rw [b1_f (by omega)] at k
    exact k
  · refine r_iconstv C 1 rfl hd1 (r_goto C (tgt + 1) (by omega) hd2 ?_)
    rw [b1_t q] at k
    exact k
theorem j_if_le1 (C : oC G M n0 nF p l R s m args meth c) {x : Int32} {a : Int} {off off2 : Int} (tgt : Nat) (ht : (pc : Int) + off = (tgt : Int)) (hJ : (pc : Int) + 4 + off2 = (tgt : Int) + 1) (hx : x.toInt = a) (hd : decode M.2.1 pc = .ok (.ifCond .le off, 3)) (hd1 : decode M.2.1 (pc + 3) = .ok (.iconst 0, 1)) (hd2 : decode M.2.1 (pc + 4) = .ok (.goto off2, 3)) (hd3 : decode M.2.1 tgt = .ok (.iconst 1, 1)) (k : oS G M p l e R s m args below meth c Z n0 (tgt + 1) L (.int (b1 (a ≤ 0)) :: S) h) : oS G M p l e R s m args below meth c Z n0 pc L (.int x :: S) h := by
  refine t_if_le C tgt ht hx hd (fun q => ?_) (fun q => ?_)
  · refine r_iconstv C 1 rfl hd3 ?_
    rw [b1_t q] at k
    exact k
  · refine r_iconstv C 0 rfl hd1 (r_goto C (tgt + 1) (by omega) hd2 ?_)
    rw [b1_f (by omega)] at k
    exact k
theorem t_icmp_le (C : oC G M n0 nF p l R s m args meth c) {x y : Int32} {a b : Int} {off : Int} (tgt : Nat) (ht : (pc : Int) + off = (tgt : Int)) (hx : x.toInt = a) (hy : y.toInt = b) (hd : decode M.2.1 pc = .ok (.if_icmp .le off, 3)) (kt : a ≤ b → oS G M p l e R s m args below meth c Z n0 tgt L S h) (kf : b < a → oS G M p l e R s m args below meth c Z n0 (pc + 3) L S h) : oS G M p l e R s m args below meth c Z n0 pc L (.int y :: .int x :: S) h := by
  subst hx; subst hy
  exact r_icmp_le C tgt ht hd (fun q => kt (Int32.le_iff_toInt_le.mp q)) (fun q => kf (Int.not_le.mp (fun z => q (Int32.le_iff_toInt_le.mpr z))))
theorem j_icmp_le0 (C : oC G M n0 nF p l R s m args meth c) {x y : Int32} {a b : Int} {off off2 : Int} (tgt : Nat) (ht : (pc : Int) + off = (tgt : Int)) (hJ : (pc : Int) + 4 + off2 = (tgt : Int) + 1) (hx : x.toInt = a) (hy : y.toInt = b) (hd : decode M.2.1 pc = .ok (.if_icmp .le off, 3)) (hd1 : decode M.2.1 (pc + 3) = .ok (.iconst 1, 1)) (hd2 : decode M.2.1 (pc + 4) = .ok (.goto off2, 3)) (hd3 : decode M.2.1 tgt = .ok (.iconst 0, 1)) (k : oS G M p l e R s m args below meth c Z n0 (tgt + 1) L (.int (b1 (b < a)) :: S) h) : oS G M p l e R s m args below meth c Z n0 pc L (.int y :: .int x :: S) h := by
  refine t_icmp_le C tgt ht hx hy hd (fun q => ?_) (fun q => ?_)
  · refine r_iconstv C 0 rfl hd3 ?_
    rw [b1_f (by omega)] at k
    exact k
  · refine r_iconstv C 1 rfl hd1 (r_goto C (tgt + 1) (by omega) hd2 ?_)
    rw [b1_t q] at k
    exact k
theorem j_icmp_le1 (C : oC G M n0 nF p l R s m args meth c) {x y : Int32} {a b : Int} {off off2 : Int} (tgt : Nat) (ht : (pc : Int) + off = (tgt : Int)) (hJ : (pc : Int) + 4 + off2 = (tgt : Int) + 1) (hx : x.toInt = a) (hy : y.toInt = b) (hd : decode M.2.1 pc = .ok (.if_icmp .le off, 3)) (hd1 : decode M.2.1 (pc + 3) = .ok (.iconst 0, 1)) (hd2 : decode M.2.1 (pc + 4) = .ok (.goto off2, 3)) (hd3 : decode M.2.1 tgt = .ok (.iconst 1, 1)) (k : oS G M p l e R s m args below meth c Z n0 (tgt + 1) L (.int (b1 (a ≤ b)) :: S) h) : oS G M p l e R s m args below meth c Z n0 pc L (.int y :: .int x :: S) h := by
  refine t_icmp_le C tgt ht hx hy hd (fun q => ?_) (fun q => ?_)
  · refine r_iconstv C 1 rfl hd3 ?_
    rw [b1_t q] at k
    exact k
  · refine r_iconstv C 0 rfl hd1 (r_goto C (tgt + 1) (by omega) hd2 ?_)
    rw [b1_f (by omega)] at k
    exact k
theorem lg_cmp_cases {x y : Int64} {a b : Int} (hx : x.toInt = a) (hy : y.toInt = b) : (lg_cmp x y = 1 ∧ b < a) ∨ (lg_cmp x y = 0 ∧ a = b) ∨ (lg_cmp x y = -1 ∧ a < b) := by
  subst hx; subst hy
  unfold lg_cmp
  by_cases h1 : y < x
  · left
    rw [if_pos h1]
    exact ⟨rfl, Int64.lt_iff_toInt_lt.mp h1⟩
  · rw [if_neg h1]
    by_cases h2 : x = y
    · right; left
      rw [if_pos h2]
      exact ⟨rfl, congrArg Int64.toInt h2⟩
    · right; right
      rw [if_neg h2]
      refine ⟨rfl, ?_⟩
      have h3 : ¬ y.toInt < x.toInt := fun z => h1 (Int64.lt_iff_toInt_lt.mpr z)
      have h4 : ¬ x.toInt = y.toInt := fun z => h2 (Int64.toInt_inj.mp z)
      omega
theorem t_lcmp_eq (C : oC G M n0 nF p l R s m args meth c) {x y : Int64} {a b : Int} {off : Int} (tgt : Nat) (ht : (pc : Int) + off = (tgt : Int)) (hx : x.toInt = a) (hy : y.toInt = b) (hd : decode M.2.1 pc = .ok (.ifCond .eq off, 3)) (kt : a = b → oS G M p l e R s m args below meth c Z n0 tgt L S h) (kf : ¬ a = b → oS G M p l e R s m args below meth c Z n0 (pc + 3) L S h) : oS G M p l e R s m args below meth c Z n0 pc L (.int (lg_cmp x y) :: S) h := by
  have hc := lg_cmp_cases hx hy
  refine t_if_eq C tgt ht rfl hd (fun q => kt ?_) (fun q => kf ?_)
  · rcases hc with ⟨e, hl⟩ | ⟨e, hl⟩ | ⟨e, hl⟩ <;> rw [e] at q <;> first | omega | exact absurd q (by decide)
  · rcases hc with ⟨e, hl⟩ | ⟨e, hl⟩ | ⟨e, hl⟩ <;> rw [e] at q <;> first | omega | exact absurd q (by decide)
theorem t_lcmp_ne (C : oC G M n0 nF p l R s m args meth c) {x y : Int64} {a b : Int} {off : Int} (tgt : Nat) (ht : (pc : Int) + off = (tgt : Int)) (hx : x.toInt = a) (hy : y.toInt = b) (hd : decode M.2.1 pc = .ok (.ifCond .ne off, 3)) (kt : ¬ a = b → oS G M p l e R s m args below meth c Z n0 tgt L S h) (kf : a = b → oS G M p l e R s m args below meth c Z n0 (pc + 3) L S h) : oS G M p l e R s m args below meth c Z n0 pc L (.int (lg_cmp x y) :: S) h := by
  have hc := lg_cmp_cases hx hy
  refine t_if_ne C tgt ht rfl hd (fun q => kt ?_) (fun q => kf ?_)
  · rcases hc with ⟨e, hl⟩ | ⟨e, hl⟩ | ⟨e, hl⟩ <;> rw [e] at q <;> first | omega | exact absurd q (by decide)
  · rcases hc with ⟨e, hl⟩ | ⟨e, hl⟩ | ⟨e, hl⟩ <;> rw [e] at q <;> first | omega | exact absurd q (by decide)
theorem t_lcmp_lt (C : oC G M n0 nF p l R s m args meth c) {x y : Int64} {a b : Int} {off : Int} (tgt : Nat) (ht : (pc : Int) + off = (tgt : Int)) (hx : x.toInt = a) (hy : y.toInt = b) (hd : decode M.2.1 pc = .ok (.ifCond .lt off, 3)) (kt : a < b → oS G M p l e R s m args below meth c Z n0 tgt L S h) (kf : b ≤ a → oS G M p l e R s m args below meth c Z n0 (pc + 3) L S h) : oS G M p l e R s m args below meth c Z n0 pc L (.int (lg_cmp x y) :: S) h := by
  have hc := lg_cmp_cases hx hy
  refine t_if_lt C tgt ht rfl hd (fun q => kt ?_) (fun q => kf ?_)
  · rcases hc with ⟨e, hl⟩ | ⟨e, hl⟩ | ⟨e, hl⟩ <;> rw [e] at q <;> first | omega | exact absurd q (by decide)
  · rcases hc with ⟨e, hl⟩ | ⟨e, hl⟩ | ⟨e, hl⟩ <;> rw [e] at q <;> first | omega | exact absurd q (by decide)
theorem t_lcmp_ge (C : oC G M n0 nF p l R s m args meth c) {x y : Int64} {a b : Int} {off : Int} (tgt : Nat) (ht : (pc : Int) + off = (tgt : Int)) (hx : x.toInt = a) (hy : y.toInt = b) (hd : decode M.2.1 pc = .ok (.ifCond .ge off, 3)) (kt : b ≤ a → oS G M p l e R s m args below meth c Z n0 tgt L S h) (kf : a < b → oS G M p l e R s m args below meth c Z n0 (pc + 3) L S h) : oS G M p l e R s m args below meth c Z n0 pc L (.int (lg_cmp x y) :: S) h := by
  have hc := lg_cmp_cases hx hy
  refine t_if_ge C tgt ht rfl hd (fun q => kt ?_) (fun q => kf ?_)
  · rcases hc with ⟨e, hl⟩ | ⟨e, hl⟩ | ⟨e, hl⟩ <;> rw [e] at q <;> first | omega | exact absurd q (by decide)
  · rcases hc with ⟨e, hl⟩ | ⟨e, hl⟩ | ⟨e, hl⟩ <;> rw [e] at q <;> first | omega | exact absurd q (by decide)
theorem t_lcmp_gt (C : oC G M n0 nF p l R s m args meth c) {x y : Int64} {a b : Int} {off : Int} (tgt : Nat) (ht : (pc : Int) + off = (tgt : Int)) (hx : x.toInt = a) (hy : y.toInt = b) (hd : decode M.2.1 pc = .ok (.ifCond .gt off, 3)) (kt : b < a → oS G M p l e R s m args below meth c Z n0 tgt L S h) (kf : a ≤ b → oS G M p l e R s m args below meth c Z n0 (pc + 3) L S h) : oS G M p l e R s m args below meth c Z n0 pc L (.int (lg_cmp x y) :: S) h := by
  have hc := lg_cmp_cases hx hy
  refine t_if_gt C tgt ht rfl hd (fun q => kt ?_) (fun q => kf ?_)
  · rcases hc with ⟨e, hl⟩ | ⟨e, hl⟩ | ⟨e, hl⟩ <;> rw [e] at q <;> first | omega | exact absurd q (by decide)
  · rcases hc with ⟨e, hl⟩ | ⟨e, hl⟩ | ⟨e, hl⟩ <;> rw [e] at q <;> first | omega | exact absurd q (by decide)
theorem t_lcmp_le (C : oC G M n0 nF p l R s m args meth c) {x y : Int64} {a b : Int} {off : Int} (tgt : Nat) (ht : (pc : Int) + off = (tgt : Int)) (hx : x.toInt = a) (hy : y.toInt = b) (hd : decode M.2.1 pc = .ok (.ifCond .le off, 3)) (kt : a ≤ b → oS G M p l e R s m args below meth c Z n0 tgt L S h) (kf : b < a → oS G M p l e R s m args below meth c Z n0 (pc + 3) L S h) : oS G M p l e R s m args below meth c Z n0 pc L (.int (lg_cmp x y) :: S) h := by
  have hc := lg_cmp_cases hx hy
  refine t_if_le C tgt ht rfl hd (fun q => kt ?_) (fun q => kf ?_)
  · rcases hc with ⟨e, hl⟩ | ⟨e, hl⟩ | ⟨e, hl⟩ <;> rw [e] at q <;> first | omega | exact absurd q (by decide)
  · rcases hc with ⟨e, hl⟩ | ⟨e, hl⟩ | ⟨e, hl⟩ <;> rw [e] at q <;> first | omega | exact absurd q (by decide)
theorem t_ifb_eq (C : oC G M n0 nF p l R s m args meth c) {P : Prop} [Decidable P] {off : Int} (tgt : Nat) (ht : (pc : Int) + off = (tgt : Int)) (hd : decode M.2.1 pc = .ok (.ifCond .eq off, 3)) (kt : ¬ P → oS G M p l e R s m args below meth c Z n0 tgt L S h) (kf : P → oS G M p l e R s m args below meth c Z n0 (pc + 3) L S h) : oS G M p l e R s m args below meth c Z n0 pc L (.int (b1 P) :: S) h := r_if_eq C tgt ht hd (fun q => kt (b1_e0.mp q)) (fun q => kf (b1_n0.mp q))
theorem t_ifb_ne (C : oC G M n0 nF p l R s m args meth c) {P : Prop} [Decidable P] {off : Int} (tgt : Nat) (ht : (pc : Int) + off = (tgt : Int)) (hd : decode M.2.1 pc = .ok (.ifCond .ne off, 3)) (kt : P → oS G M p l e R s m args below meth c Z n0 tgt L S h) (kf : ¬ P → oS G M p l e R s m args below meth c Z n0 (pc + 3) L S h) : oS G M p l e R s m args below meth c Z n0 pc L (.int (b1 P) :: S) h := r_if_ne C tgt ht hd (fun q => kt (b1_n0.mp q)) (fun q => kf (b1_e0.mp q))
theorem r_getO (C : oC G M n0 nF p l R s m args meth c) {a b ci k idx : Nat} {ty : FieldType} (hd : decode M.2.1 pc = .ok (.getfield idx, 3)) (hf : oFL M.1.cls idx ci k ty) (hty : tyR ty = true) (ht : tg a = (0, ci)) (ha : a < h.1) (hr : hR h a k = some b) (kk : oS G M p l e R s m args below meth c Z n0 (pc + 3) L (.ref b :: S) h) : oS G M p l e R s m args below meth c Z n0 pc L (.ref a :: S) h := r_getR C hd hf hty ht ha hr kk
end OB
end
section
/-! leaves: the JDK's own small methods, a house, a plan -/
theorem kp_J9_max_7cf53 : plainFor mJ9_max_7cf53.1 = true := by decide +kernel
theorem kp_J9_min_7cf53 : plainFor mJ9_min_7cf53.1 = true := by decide +kernel
theorem kp_J9_abs_0f7a4 : plainFor mJ9_abs_0f7a4.1 = true := by decide +kernel
theorem kp_J9_floorDiv_7cf53 : plainFor mJ9_floorDiv_7cf53.1 = true := by decide +kernel
def mx (x y : Int32) : Int32 := if x.toInt < y.toInt then y else x
def mn (x y : Int32) : Int32 := if y.toInt < x.toInt then y else x
def ab (x : Int32) : Int32 := if 0 ≤ x.toInt then x else -x
theorem mx_t (x y : Int32) : (mx x y).toInt = max x.toInt y.toInt := by
  unfold mx
  split <;> omega
theorem mn_t (x y : Int32) : (mn x y).toInt = min x.toInt y.toInt := by
  unfold mn
  split <;> omega
def fdv (x y : Int32) : Int32 := if (x ^^^ y).toInt < 0 ∧ ¬ (x / y * y).toInt = x.toInt then x / y - 1 else x / y
def cutC (v n : Int32) : Int32 := if n.toInt ≤ 0 then 0 else v / n
def rupC (v n : Int32) : Int32 := if n.toInt ≤ 0 then 0 else -(fdv (-v) n)
theorem oH_ext {h h' : oH} (hn : h'.1 = h.1) (hi : ∀ x y, hI h' x y = hI h x y) (hj : ∀ x y, hJ h' x y = hJ h x y) (hr : ∀ x y, hR h' x y = hR h x y) : h' = h := by
  obtain ⟨n, i, j, r⟩ := h
  obtain ⟨n', i', j', r'⟩ := h'
  have e1 : i' = i := funext fun x => funext fun y => hi x y
  have e2 : j' = j := funext fun x => funext fun y => hj x y
  have e3 : r' = r := funext fun x => funext fun y => hr x y
  have e0 : n' = n := hn
  rw [e0, e1, e2, e3]
set_option maxHeartbeats 4000000 in
set_option maxRecDepth 100000 in
theorem sp_max (G : oG) {h : oH} (x y : Int32) : oSp G mJ9_max_7cf53 [.int x, .int y] h (some (.int (mx x y))) h := by
  refine oSp.intro [some (.int x), some (.int y)] rfl (Nat.le_of_ble_eq_true rfl) kp_J9_max_7cf53 (Nat.le_refl _) ?_
  intro p l e R s m args below meth c C
  refine r_iload_n C rfl dJ9_max_7cf53_0 ?_
  refine r_iload_n C rfl dJ9_max_7cf53_1 ?_
  refine t_icmp_lt C 9 (by decide) rfl rfl dJ9_max_7cf53_2 (fun c2 => ?_) (fun c2 => ?_)
  · refine r_iload_n C rfl dJ9_max_7cf53_9 ?_
    exact r_iret C dJ9_max_7cf53_10 rfl (Nat.le_refl _) (by simp only [mx]; (repeat' split) <;> first | rfl | omega) rfl
  · refine r_iload_n C rfl dJ9_max_7cf53_5 ?_
    refine r_goto C 10 (by decide) dJ9_max_7cf53_6 ?_
    exact r_iret C dJ9_max_7cf53_10 rfl (Nat.le_refl _) (by simp only [mx]; (repeat' split) <;> first | rfl | omega) rfl

set_option maxHeartbeats 4000000 in
set_option maxRecDepth 100000 in
theorem sp_min (G : oG) {h : oH} (x y : Int32) : oSp G mJ9_min_7cf53 [.int x, .int y] h (some (.int (mn x y))) h := by
  refine oSp.intro [some (.int x), some (.int y)] rfl (Nat.le_of_ble_eq_true rfl) kp_J9_min_7cf53 (Nat.le_refl _) ?_
  intro p l e R s m args below meth c C
  refine r_iload_n C rfl dJ9_min_7cf53_0 ?_
  refine r_iload_n C rfl dJ9_min_7cf53_1 ?_
  refine t_icmp_gt C 9 (by decide) rfl rfl dJ9_min_7cf53_2 (fun c2 => ?_) (fun c2 => ?_)
  · refine r_iload_n C rfl dJ9_min_7cf53_9 ?_
    exact r_iret C dJ9_min_7cf53_10 rfl (Nat.le_refl _) (by simp only [mn]; (repeat' split) <;> first | rfl | omega) rfl
  · refine r_iload_n C rfl dJ9_min_7cf53_5 ?_
    refine r_goto C 10 (by decide) dJ9_min_7cf53_6 ?_
    exact r_iret C dJ9_min_7cf53_10 rfl (Nat.le_refl _) (by simp only [mn]; (repeat' split) <;> first | rfl | omega) rfl

set_option maxHeartbeats 4000000 in
set_option maxRecDepth 100000 in
theorem sp_abs (G : oG) {h : oH} (x : Int32) : oSp G mJ9_abs_0f7a4 [.int x] h (some (.int (ab x))) h := by
  refine oSp.intro [some (.int x)] rfl (Nat.le_of_ble_eq_true rfl) kp_J9_abs_0f7a4 (Nat.le_refl _) ?_
  intro p l e R s m args below meth c C
  refine r_iload_n C rfl dJ9_abs_0f7a4_0 ?_
  refine t_if_ge C 9 (by decide) rfl dJ9_abs_0f7a4_1 (fun c1 => ?_) (fun c1 => ?_)
  · refine r_iload_n C rfl dJ9_abs_0f7a4_9 ?_
    exact r_iret C dJ9_abs_0f7a4_10 rfl (Nat.le_refl _) (by simp only [ab]; (repeat' split) <;> first | rfl | omega) rfl
  · refine r_iload_n C rfl dJ9_abs_0f7a4_4 ?_
    refine r_ineg C dJ9_abs_0f7a4_5 ?_
    refine r_goto C 10 (by decide) dJ9_abs_0f7a4_6 ?_
    exact r_iret C dJ9_abs_0f7a4_10 rfl (Nat.le_refl _) (by simp only [ab]; (repeat' split) <;> first | rfl | omega) rfl

set_option maxHeartbeats 4000000 in
set_option maxRecDepth 100000 in
theorem sp_fdv (G : oG) {h : oH} (x y : Int32) (hy : ¬ y = 0) : oSp G mJ9_floorDiv_7cf53 [.int x, .int y] h (some (.int (fdv x y))) h := by
  refine oSp.intro [some (.int x), some (.int y), none] rfl (Nat.le_of_ble_eq_true rfl) kp_J9_floorDiv_7cf53 (Nat.le_refl _) ?_
  intro p l e R s m args below meth c C
  refine r_iload_n C rfl dJ9_floorDiv_7cf53_0 ?_
  refine r_iload_n C rfl dJ9_floorDiv_7cf53_1 ?_
  refine r_idiv C hy dJ9_floorDiv_7cf53_2 ?_
  refine r_istore_n C rfl (Nat.le_of_ble_eq_true rfl) dJ9_floorDiv_7cf53_3 ?_
  refine r_iload_n C rfl dJ9_floorDiv_7cf53_4 ?_
  refine r_iload_n C rfl dJ9_floorDiv_7cf53_5 ?_
  refine r_ixor C dJ9_floorDiv_7cf53_6 ?_
  refine t_if_ge C 21 (by decide) rfl dJ9_floorDiv_7cf53_7 (fun c7 => ?_) (fun c7 => ?_)
  · refine r_iload_n C rfl dJ9_floorDiv_7cf53_21 ?_
    exact r_iret C dJ9_floorDiv_7cf53_22 rfl (Nat.le_refl _) (by simp only [fdv]; (repeat' split) <;> first | rfl | omega) rfl
  · refine r_iload_n C rfl dJ9_floorDiv_7cf53_10 ?_
    refine r_iload_n C rfl dJ9_floorDiv_7cf53_11 ?_
    refine r_imul C dJ9_floorDiv_7cf53_12 ?_
    refine r_iload_n C rfl dJ9_floorDiv_7cf53_13 ?_
    refine t_icmp_eq C 21 (by decide) rfl rfl dJ9_floorDiv_7cf53_14 (fun c14 => ?_) (fun c14 => ?_)
    · refine r_iload_n C rfl dJ9_floorDiv_7cf53_21 ?_
      exact r_iret C dJ9_floorDiv_7cf53_22 rfl (Nat.le_refl _) (by simp only [fdv]; (repeat' split) <;> first | rfl | omega) rfl
    · refine r_iload_n C rfl dJ9_floorDiv_7cf53_17 ?_
      refine r_iconstv C 1 rfl dJ9_floorDiv_7cf53_18 ?_
      refine r_isub C dJ9_floorDiv_7cf53_19 ?_
      exact r_iret C dJ9_floorDiv_7cf53_20 rfl (Nat.le_refl _) (by simp only [fdv]; (repeat' split) <;> first | rfl | omega) rfl

set_option maxHeartbeats 4000000 in
set_option maxRecDepth 100000 in
theorem sp_low (G : oG) {h : oH} {a : Nat} (ta : tg a = (0, 1)) (la : a < h.1) (x : Int32) : oSp G mX1_low [.ref a, .int x] h (some (.int (hI h a 4 + hI h a 5 * x))) h := by
  refine oSp.intro [some (.ref a), some (.int x)] rfl (Nat.le_of_ble_eq_true rfl) (plainFor_of_name (by decide +kernel)) (Nat.le_refl _) ?_
  intro p l e R s m args below meth c C
  refine r_aload_n C rfl rfl dX1_low_0 ?_
  refine r_getI C dX1_low_1 fl_X1_18 ta la ?_
  refine r_aload_n C rfl rfl dX1_low_4 ?_
  refine r_getI C dX1_low_5 fl_X1_22 ta la ?_
  refine r_iload_n C rfl dX1_low_8 ?_
  refine r_imul C dX1_low_9 ?_
  refine r_iadd C dX1_low_10 ?_
  exact r_iret C dX1_low_11 rfl (Nat.le_refl _) rfl rfl

set_option maxHeartbeats 4000000 in
set_option maxRecDepth 100000 in
theorem sp_high (G : oG) {h : oH} {a : Nat} (ta : tg a = (0, 1)) (la : a < h.1) (x : Int32) : oSp G mX1_high [.ref a, .int x] h (some (.int (hI h a 6 + hI h a 7 * x))) h := by
  refine oSp.intro [some (.ref a), some (.int x)] rfl (Nat.le_of_ble_eq_true rfl) (plainFor_of_name (by decide +kernel)) (Nat.le_refl _) ?_
  intro p l e R s m args below meth c C
  refine r_aload_n C rfl rfl dX1_high_0 ?_
  refine r_getI C dX1_high_1 fl_X1_25 ta la ?_
  refine r_aload_n C rfl rfl dX1_high_4 ?_
  refine r_getI C dX1_high_5 fl_X1_28 ta la ?_
  refine r_iload_n C rfl dX1_high_8 ?_
  refine r_imul C dX1_high_9 ?_
  refine r_iadd C dX1_high_10 ?_
  exact r_iret C dX1_high_11 rfl (Nat.le_refl _) rfl rfl

def endDayH (h : oH) (a : Nat) (x : Int32) : oH := sI (sI (sI (sI h a 8 (mx 0 (hI h a 8 - (hI h a 4 + hI h a 5 * x)))) a 9 (mx 0 (hI h a 9 - (hI h a 6 + hI h a 7 * x)))) a 13 (hI h a 13 + 1)) a 14 (hI h a 14 + x)
set_option maxHeartbeats 4000000 in
set_option maxRecDepth 100000 in
theorem sp_endDay (G : oG) {h : oH} {a : Nat} (ta : tg a = (0, 1)) (la : a < h.1) (x : Int32) : oSp G mX1_endDay [.ref a, .int x] h none (endDayH h a x) := by
  refine oSp.intro [some (.ref a), some (.int x)] rfl (Nat.le_of_ble_eq_true rfl) (plainFor_of_name (by decide +kernel)) (Nat.le_refl _) ?_
  intro p l e R s m args below meth c C
  refine r_aload_n C rfl rfl dX1_endDay_0 ?_
  refine r_iconstv C 0 rfl dX1_endDay_1 ?_
  refine r_aload_n C rfl rfl dX1_endDay_2 ?_
  refine r_getI C dX1_endDay_3 fl_X1_56 ta la ?_
  refine r_aload_n C rfl rfl dX1_endDay_6 ?_
  refine r_iload_n C rfl dX1_endDay_7 ?_
  refine r_callV C (sp_low G ta (by exact la) _) kv_X1_low kn_X1_low rfl dX1_endDay_8 cl_X1_62 ⟨Nat.le_of_ble_eq_true rfl, Nat.le_of_ble_eq_true rfl⟩ (by decide) rfl ta la (Nat.le_refl _) rfl (Nat.le_of_ble_eq_true rfl) ?_
  refine r_isub C dX1_endDay_11 ?_
  refine r_callS C (sp_max G _ _) ks_J9_max_7cf53 kn_J9_max_7cf53 rfl dX1_endDay_12 cl_X1_66 ⟨Nat.le_of_ble_eq_true rfl, Nat.le_of_ble_eq_true rfl⟩ (Nat.le_refl _) rfl (Nat.le_of_ble_eq_true rfl) ?_
  refine r_putI C dX1_endDay_15 fl_X1_56 ta la (Or.inl rfl) ?_
  refine r_aload_n C rfl rfl dX1_endDay_18 ?_
  refine r_iconstv C 0 rfl dX1_endDay_19 ?_
  refine r_aload_n C rfl rfl dX1_endDay_20 ?_
  refine r_getI C dX1_endDay_21 fl_X1_59 ta la ?_
  refine r_aload_n C rfl rfl dX1_endDay_24 ?_
  refine r_iload_n C rfl dX1_endDay_25 ?_
  refine r_callV C (sp_high G ta (by exact la) _) kv_X1_high kn_X1_high rfl dX1_endDay_26 cl_X1_72 ⟨Nat.le_of_ble_eq_true rfl, Nat.le_of_ble_eq_true rfl⟩ (by decide) rfl ta la (Nat.le_refl _) rfl (Nat.le_of_ble_eq_true rfl) ?_
  refine r_isub C dX1_endDay_29 ?_
  refine r_callS C (sp_max G _ _) ks_J9_max_7cf53 kn_J9_max_7cf53 rfl dX1_endDay_30 cl_X1_66 ⟨Nat.le_of_ble_eq_true rfl, Nat.le_of_ble_eq_true rfl⟩ (Nat.le_refl _) rfl (Nat.le_of_ble_eq_true rfl) ?_
  refine r_putI C dX1_endDay_33 fl_X1_59 ta la (Or.inl rfl) ?_
  refine r_aload_n C rfl rfl dX1_endDay_36 ?_
  refine r_dup C rfl dX1_endDay_37 ?_
  refine r_getI C dX1_endDay_38 fl_X1_41 ta la ?_
  refine r_iconstv C 1 rfl dX1_endDay_41 ?_
  refine r_iadd C dX1_endDay_42 ?_
  refine r_putI C dX1_endDay_43 fl_X1_41 ta la (Or.inl rfl) ?_
  refine r_aload_n C rfl rfl dX1_endDay_46 ?_
  refine r_dup C rfl dX1_endDay_47 ?_
  refine r_getI C dX1_endDay_48 fl_X1_44 ta la ?_
  refine r_iload_n C rfl dX1_endDay_51 ?_
  refine r_iadd C dX1_endDay_52 ?_
  refine r_putI C dX1_endDay_53 fl_X1_44 ta la (Or.inl rfl) ?_
  exact r_vret C dX1_endDay_56 rfl (Nat.le_refl _) (by simp [endDayH, hI_sI])

set_option maxHeartbeats 4000000 in
set_option maxRecDepth 100000 in
theorem sp_isSafe (G : oG) {h : oH} {a : Nat} (ta : tg a = (0, 1)) (la : a < h.1) : oSp G mX1_isSafe [.ref a] h (some (.int (b1 (0 < (hI h a 9).toInt)))) h := by
  refine oSp.intro [some (.ref a)] rfl (Nat.le_of_ble_eq_true rfl) (plainFor_of_name (by decide +kernel)) (Nat.le_refl _) ?_
  intro p l e R s m args below meth c C
  refine r_aload_n C rfl rfl dX1_isSafe_0 ?_
  refine r_getI C dX1_isSafe_1 fl_X1_59 ta la ?_
  refine j_if_le0 C 11 (by decide) rfl rfl dX1_isSafe_4 dX1_isSafe_7 dX1_isSafe_8 dX1_isSafe_11 ?_
  exact r_zret C dX1_isSafe_12 rfl b1_nar (Nat.le_refl _) rfl rfl

set_option maxHeartbeats 4000000 in
set_option maxRecDepth 100000 in
theorem sp_isDueC (G : oG) {h : oH} {a : Nat} (ta : tg a = (0, 1)) (la : a < h.1) (y x : Int32) : oSp G mX1_isDue [.ref a, .int y, .int x] h (some (.int (b1 ((hI h a 9).toInt ≤ (y * (hI h a 6 + hI h a 7 * x)).toInt)))) h := by
  refine oSp.intro [some (.ref a), some (.int y), some (.int x)] rfl (Nat.le_of_ble_eq_true rfl) (plainFor_of_name (by decide +kernel)) (Nat.le_refl _) ?_
  intro p l e R s m args below meth c C
  refine r_aload_n C rfl rfl dX1_isDue_0 ?_
  refine r_getI C dX1_isDue_1 fl_X1_59 ta la ?_
  refine r_iload_n C rfl dX1_isDue_4 ?_
  refine r_aload_n C rfl rfl dX1_isDue_5 ?_
  refine r_iload_n C rfl dX1_isDue_6 ?_
  refine r_callV C (sp_high G ta (by exact la) _) kv_X1_high kn_X1_high rfl dX1_isDue_7 cl_X1_72 ⟨Nat.le_of_ble_eq_true rfl, Nat.le_of_ble_eq_true rfl⟩ (by decide) rfl ta la (Nat.le_refl _) rfl (Nat.le_of_ble_eq_true rfl) ?_
  refine r_imul C dX1_isDue_10 ?_
  refine j_icmp_gt0 C 18 (by decide) rfl rfl rfl dX1_isDue_11 dX1_isDue_14 dX1_isDue_15 dX1_isDue_18 ?_
  exact r_zret C dX1_isDue_19 rfl b1_nar (Nat.le_refl _) rfl rfl

def dtg (h : oH) (a : Nat) (x : Int32) : Int32 := if 0 < (hI h a 6 + hI h a 7 * x).toInt then hI h a 9 / (hI h a 6 + hI h a 7 * x) else 1000
set_option maxHeartbeats 4000000 in
set_option maxRecDepth 100000 in
theorem sp_daysToGo (G : oG) {h : oH} {a : Nat} (ta : tg a = (0, 1)) (la : a < h.1) (x : Int32) : oSp G mX1_daysToGo [.ref a, .int x] h (some (.int (dtg h a x))) h := by
  refine oSp.intro [some (.ref a), some (.int x), none] rfl (Nat.le_of_ble_eq_true rfl) (plainFor_of_name (by decide +kernel)) (Nat.le_refl _) ?_
  intro p l e R s m args below meth c C
  refine r_aload_n C rfl rfl dX1_daysToGo_0 ?_
  refine r_iload_n C rfl dX1_daysToGo_1 ?_
  refine r_callV C (sp_high G ta (by exact la) _) kv_X1_high kn_X1_high rfl dX1_daysToGo_2 cl_X1_72 ⟨Nat.le_of_ble_eq_true rfl, Nat.le_of_ble_eq_true rfl⟩ (by decide) rfl ta la (Nat.le_refl _) rfl (Nat.le_of_ble_eq_true rfl) ?_
  refine r_istore_n C rfl (Nat.le_of_ble_eq_true rfl) dX1_daysToGo_5 ?_
  refine r_iload_n C rfl dX1_daysToGo_6 ?_
  refine t_if_gt C 16 (by decide) rfl dX1_daysToGo_7 (fun c7 => ?_) (fun c7 => ?_)
  · refine r_aload_n C rfl rfl dX1_daysToGo_16 ?_
    refine r_getI C dX1_daysToGo_17 fl_X1_59 ta la ?_
    refine r_iload_n C rfl dX1_daysToGo_20 ?_
    refine r_idiv C (fun e => by have c := c7; rw [e] at c; exact absurd c (by decide)) dX1_daysToGo_21 ?_
    exact r_iret C dX1_daysToGo_22 rfl (Nat.le_refl _) (by simp only [dtg]; (repeat' split) <;> first | rfl | omega) rfl
  · refine r_sipush C 1000 rfl dX1_daysToGo_10 ?_
    refine r_goto C 22 (by decide) dX1_daysToGo_13 ?_
    exact r_iret C dX1_daysToGo_22 rfl (Nat.le_refl _) (by simp only [dtg]; (repeat' split) <;> first | rfl | omega) rfl

def lastC (h : oH) (a : Nat) (x : Int32) : Int32 := if 0 < (hI h a 9).toInt then (if 0 < (hI h a 6 + hI h a 7 * x).toInt then mn 500 ((hI h a 9 - 1) / (hI h a 6 + hI h a 7 * x)) else 500) else 0
set_option maxHeartbeats 4000000 in
set_option maxRecDepth 100000 in
theorem sp_lastC (G : oG) {h : oH} {a : Nat} (ta : tg a = (0, 1)) (la : a < h.1) (x : Int32) : oSp G mX1_daysAboveZero [.ref a, .int x] h (some (.int (lastC h a x))) h := by
  refine oSp.intro [some (.ref a), some (.int x), none] rfl (Nat.le_of_ble_eq_true rfl) (plainFor_of_name (by decide +kernel)) (Nat.le_refl _) ?_
  intro p l e R s m args below meth c C
  refine r_aload_n C rfl rfl dX1_daysAboveZero_0 ?_
  refine r_getI C dX1_daysAboveZero_1 fl_X1_59 ta la ?_
  refine t_if_gt C 9 (by decide) rfl dX1_daysAboveZero_4 (fun c4 => ?_) (fun c4 => ?_)
  · refine r_aload_n C rfl rfl dX1_daysAboveZero_9 ?_
    refine r_iload_n C rfl dX1_daysAboveZero_10 ?_
    refine r_callV C (sp_high G ta (by exact la) _) kv_X1_high kn_X1_high rfl dX1_daysAboveZero_11 cl_X1_72 ⟨Nat.le_of_ble_eq_true rfl, Nat.le_of_ble_eq_true rfl⟩ (by decide) rfl ta la (Nat.le_refl _) rfl (Nat.le_of_ble_eq_true rfl) ?_
    refine r_istore_n C rfl (Nat.le_of_ble_eq_true rfl) dX1_daysAboveZero_14 ?_
    refine r_iload_n C rfl dX1_daysAboveZero_15 ?_
    refine t_if_gt C 25 (by decide) rfl dX1_daysAboveZero_16 (fun c16 => ?_) (fun c16 => ?_)
    · refine r_sipush C 500 rfl dX1_daysAboveZero_25 ?_
      refine r_aload_n C rfl rfl dX1_daysAboveZero_28 ?_
      refine r_getI C dX1_daysAboveZero_29 fl_X1_59 ta la ?_
      refine r_iconstv C 1 rfl dX1_daysAboveZero_32 ?_
      refine r_isub C dX1_daysAboveZero_33 ?_
      refine r_iload_n C rfl dX1_daysAboveZero_34 ?_
      refine r_idiv C (fun e => by have c := c16; rw [e] at c; exact absurd c (by decide)) dX1_daysAboveZero_35 ?_
      refine r_callS C (sp_min G _ _) ks_J9_min_7cf53 kn_J9_min_7cf53 rfl dX1_daysAboveZero_36 cl_X1_75 ⟨Nat.le_of_ble_eq_true rfl, Nat.le_of_ble_eq_true rfl⟩ (Nat.le_refl _) rfl (Nat.le_of_ble_eq_true rfl) ?_
      exact r_iret C dX1_daysAboveZero_39 rfl (Nat.le_refl _) (by simp only [lastC]; (repeat' split) <;> first | rfl | omega) rfl
    · refine r_sipush C 500 rfl dX1_daysAboveZero_19 ?_
      refine r_goto C 39 (by decide) dX1_daysAboveZero_22 ?_
      exact r_iret C dX1_daysAboveZero_39 rfl (Nat.le_refl _) (by simp only [lastC]; (repeat' split) <;> first | rfl | omega) rfl
  · refine r_iconstv C 0 rfl dX1_daysAboveZero_7 ?_
    exact r_iret C dX1_daysAboveZero_8 rfl (Nat.le_refl _) (by simp only [lastC]; (repeat' split) <;> first | rfl | omega) rfl

set_option maxHeartbeats 4000000 in
set_option maxRecDepth 100000 in
theorem sp_mayNeed (G : oG) {h : oH} {a : Nat} (ta : tg a = (0, 1)) (la : a < h.1) : oSp G mX1_mayNeed [.ref a] h (some (.int (hI h a 2 - hI h a 9))) h := by
  refine oSp.intro [some (.ref a)] rfl (Nat.le_of_ble_eq_true rfl) (plainFor_of_name (by decide +kernel)) (Nat.le_refl _) ?_
  intro p l e R s m args below meth c C
  refine r_aload_n C rfl rfl dX1_mayNeed_0 ?_
  refine r_getI C dX1_mayNeed_1 fl_X1_53 ta la ?_
  refine r_aload_n C rfl rfl dX1_mayNeed_4 ?_
  refine r_getI C dX1_mayNeed_5 fl_X1_59 ta la ?_
  refine r_isub C dX1_mayNeed_8 ?_
  exact r_iret C dX1_mayNeed_9 rfl (Nat.le_refl _) rfl rfl

def noteC (h : oH) (a : Nat) (q : Int32) : Int32 := if (hI h a 13 * hI h a 6 + hI h a 14 * hI h a 7).toInt < q.toInt then 1 else if q.toInt < (hI h a 13 * hI h a 4 + hI h a 14 * hI h a 5).toInt ∧ q.toInt < (hI h a 2).toInt then 2 else 0
set_option maxHeartbeats 4000000 in
set_option maxRecDepth 100000 in
theorem sp_noteOf (G : oG) {h : oH} {a : Nat} (ta : tg a = (0, 1)) (la : a < h.1) (q : Int32) : oSp G mX1_noteOf [.ref a, .int q] h (some (.int (noteC h a q))) h := by
  refine oSp.intro [some (.ref a), some (.int q)] rfl (Nat.le_of_ble_eq_true rfl) (plainFor_of_name (by decide +kernel)) (Nat.le_refl _) ?_
  intro p l e R s m args below meth c C
  refine r_iload_n C rfl dX1_noteOf_0 ?_
  refine r_aload_n C rfl rfl dX1_noteOf_1 ?_
  refine r_getI C dX1_noteOf_2 fl_X1_41 ta la ?_
  refine r_aload_n C rfl rfl dX1_noteOf_5 ?_
  refine r_getI C dX1_noteOf_6 fl_X1_25 ta la ?_
  refine r_imul C dX1_noteOf_9 ?_
  refine r_aload_n C rfl rfl dX1_noteOf_10 ?_
  refine r_getI C dX1_noteOf_11 fl_X1_44 ta la ?_
  refine r_aload_n C rfl rfl dX1_noteOf_14 ?_
  refine r_getI C dX1_noteOf_15 fl_X1_28 ta la ?_
  refine r_imul C dX1_noteOf_18 ?_
  refine r_iadd C dX1_noteOf_19 ?_
  refine t_icmp_le C 25 (by decide) rfl rfl dX1_noteOf_20 (fun c20 => ?_) (fun c20 => ?_)
  · refine r_iload_n C rfl dX1_noteOf_25 ?_
    refine r_aload_n C rfl rfl dX1_noteOf_26 ?_
    refine r_getI C dX1_noteOf_27 fl_X1_41 ta la ?_
    refine r_aload_n C rfl rfl dX1_noteOf_30 ?_
    refine r_getI C dX1_noteOf_31 fl_X1_18 ta la ?_
    refine r_imul C dX1_noteOf_34 ?_
    refine r_aload_n C rfl rfl dX1_noteOf_35 ?_
    refine r_getI C dX1_noteOf_36 fl_X1_44 ta la ?_
    refine r_aload_n C rfl rfl dX1_noteOf_39 ?_
    refine r_getI C dX1_noteOf_40 fl_X1_22 ta la ?_
    refine r_imul C dX1_noteOf_43 ?_
    refine r_iadd C dX1_noteOf_44 ?_
    refine t_icmp_ge C 60 (by decide) rfl rfl dX1_noteOf_45 (fun c45 => ?_) (fun c45 => ?_)
    · refine r_iconstv C 0 rfl dX1_noteOf_60 ?_
      exact r_iret C dX1_noteOf_61 rfl (Nat.le_refl _) (by simp only [noteC]; (repeat' split) <;> first | rfl | omega) rfl
    · refine r_iload_n C rfl dX1_noteOf_48 ?_
      refine r_aload_n C rfl rfl dX1_noteOf_49 ?_
      refine r_getI C dX1_noteOf_50 fl_X1_53 ta la ?_
      refine t_icmp_ge C 60 (by decide) rfl rfl dX1_noteOf_53 (fun c53 => ?_) (fun c53 => ?_)
      · refine r_iconstv C 0 rfl dX1_noteOf_60 ?_
        exact r_iret C dX1_noteOf_61 rfl (Nat.le_refl _) (by simp only [noteC]; (repeat' split) <;> first | rfl | omega) rfl
      · refine r_iconstv C 2 rfl dX1_noteOf_56 ?_
        refine r_goto C 61 (by decide) dX1_noteOf_57 ?_
        exact r_iret C dX1_noteOf_61 rfl (Nat.le_refl _) (by simp only [noteC]; (repeat' split) <;> first | rfl | omega) rfl
  · refine r_iconstv C 1 rfl dX1_noteOf_23 ?_
    exact r_iret C dX1_noteOf_24 rfl (Nat.le_refl _) (by simp only [noteC]; (repeat' split) <;> first | rfl | omega) rfl

set_option maxHeartbeats 4000000 in
set_option maxRecDepth 100000 in
theorem sp_isKnown (G : oG) {h : oH} {a : Nat} (ta : tg a = (0, 1)) (la : a < h.1) : oSp G mX1_isKnown [.ref a] h (some (.int (b1 (3 ≤ (hI h a 10).toInt ∧ (hI h a 12).toInt = 0)))) h := by
  refine oSp.intro [some (.ref a)] rfl (Nat.le_of_ble_eq_true rfl) (plainFor_of_name (by decide +kernel)) (Nat.le_refl _) ?_
  intro p l e R s m args below meth c C
  refine r_aload_n C rfl rfl dX1_isKnown_0 ?_
  refine r_getI C dX1_isKnown_1 fl_X1_31 ta la ?_
  refine r_iconstv C 3 rfl dX1_isKnown_4 ?_
  refine t_icmp_lt C 19 (by decide) rfl (show (3 : Int32).toInt = 3 from rfl) dX1_isKnown_5 (fun c5 => ?_) (fun c5 => ?_)
  · refine r_iconstv C 0 rfl dX1_isKnown_19 ?_
    exact r_zret C dX1_isKnown_20 rfl rfl (Nat.le_refl _) (er_f (by omega)) rfl
  · refine r_aload_n C rfl rfl dX1_isKnown_8 ?_
    refine r_getZ C dX1_isKnown_9 fl_X1_37 ta la ?_
    refine t_if_ne C 19 (by decide) rfl dX1_isKnown_12 (fun c12 => ?_) (fun c12 => ?_)
    · refine r_iconstv C 0 rfl dX1_isKnown_19 ?_
      exact r_zret C dX1_isKnown_20 rfl rfl (Nat.le_refl _) (er_f (by omega)) rfl
    · refine r_iconstv C 1 rfl dX1_isKnown_15 ?_
      refine r_goto C 20 (by decide) dX1_isKnown_16 ?_
      exact r_zret C dX1_isKnown_20 rfl rfl (Nat.le_refl _) (er_t (by omega)) rfl

set_option maxHeartbeats 4000000 in
set_option maxRecDepth 100000 in
theorem sp_isLeaky (G : oG) {h : oH} {a : Nat} (ta : tg a = (0, 1)) (la : a < h.1) : oSp G mX1_isLeaky [.ref a] h (some (.int (b1 ((hI h a 11).toInt = 1)))) h := by
  refine oSp.intro [some (.ref a)] rfl (Nat.le_of_ble_eq_true rfl) (plainFor_of_name (by decide +kernel)) (Nat.le_refl _) ?_
  intro p l e R s m args below meth c C
  refine r_aload_n C rfl rfl dX1_isLeaky_0 ?_
  refine r_getI C dX1_isLeaky_1 fl_X1_34 ta la ?_
  refine r_iconstv C 1 rfl dX1_isLeaky_4 ?_
  refine j_icmp_ne0 C 12 (by decide) rfl rfl (show (1 : Int32).toInt = 1 from rfl) dX1_isLeaky_5 dX1_isLeaky_8 dX1_isLeaky_9 dX1_isLeaky_12 ?_
  exact r_zret C dX1_isLeaky_13 rfl b1_nar (Nat.le_refl _) rfl rfl

set_option maxHeartbeats 4000000 in
set_option maxRecDepth 100000 in
theorem sp_isSteady (G : oG) {h : oH} {a : Nat} (ta : tg a = (0, 1)) (la : a < h.1) : oSp G mX1_isSteady [.ref a] h (some (.int (b1 ((3 ≤ (hI h a 10).toInt ∧ (hI h a 12).toInt = 0) ∧ (hI h a 5).toInt = 0 ∧ (hI h a 7).toInt = 0)))) h := by
  refine oSp.intro [some (.ref a)] rfl (Nat.le_of_ble_eq_true rfl) (plainFor_of_name (by decide +kernel)) (Nat.le_refl _) ?_
  intro p l e R s m args below meth c C
  refine r_aload_n C rfl rfl dX1_isSteady_0 ?_
  refine r_callV C (sp_isKnown G ta (by exact la)) kv_X1_isKnown kn_X1_isKnown rfl dX1_isSteady_1 cl_X1_94 ⟨Nat.le_of_ble_eq_true rfl, Nat.le_of_ble_eq_true rfl⟩ (by decide) rfl ta la (Nat.le_refl _) rfl (Nat.le_of_ble_eq_true rfl) ?_
  refine t_ifb_eq C 25 (by decide) dX1_isSteady_4 (fun c4 => ?_) (fun c4 => ?_)
  · refine r_iconstv C 0 rfl dX1_isSteady_25 ?_
    exact r_zret C dX1_isSteady_26 rfl rfl (Nat.le_refl _) (er_f (by omega)) rfl
  · refine r_aload_n C rfl rfl dX1_isSteady_7 ?_
    refine r_getI C dX1_isSteady_8 fl_X1_22 ta la ?_
    refine t_if_ne C 25 (by decide) rfl dX1_isSteady_11 (fun c11 => ?_) (fun c11 => ?_)
    · refine r_iconstv C 0 rfl dX1_isSteady_25 ?_
      exact r_zret C dX1_isSteady_26 rfl rfl (Nat.le_refl _) (er_f (by omega)) rfl
    · refine r_aload_n C rfl rfl dX1_isSteady_14 ?_
      refine r_getI C dX1_isSteady_15 fl_X1_28 ta la ?_
      refine t_if_ne C 25 (by decide) rfl dX1_isSteady_18 (fun c18 => ?_) (fun c18 => ?_)
      · refine r_iconstv C 0 rfl dX1_isSteady_25 ?_
        exact r_zret C dX1_isSteady_26 rfl rfl (Nat.le_refl _) (er_f (by omega)) rfl
      · refine r_iconstv C 1 rfl dX1_isSteady_21 ?_
        refine r_goto C 26 (by decide) dX1_isSteady_22 ?_
        exact r_zret C dX1_isSteady_26 rfl rfl (Nat.le_refl _) (er_t (by omega)) rfl

def tkC (h : oH) (a : Nat) : Int32 := if ((hI h a 11).toInt = 1) then 3 else if ((3 ≤ (hI h a 10).toInt ∧ (hI h a 12).toInt = 0) ∧ (hI h a 5).toInt = 0 ∧ (hI h a 7).toInt = 0) then 2 else if (3 ≤ (hI h a 10).toInt ∧ (hI h a 12).toInt = 0) then 1 else 0
set_option maxHeartbeats 4000000 in
set_option maxRecDepth 100000 in
theorem sp_toldKind (G : oG) {h : oH} {a : Nat} (ta : tg a = (0, 1)) (la : a < h.1) : oSp G mX1_toldKind [.ref a] h (some (.int (tkC h a))) h := by
  refine oSp.intro [some (.ref a)] rfl (Nat.le_of_ble_eq_true rfl) (plainFor_of_name (by decide +kernel)) (Nat.le_refl _) ?_
  intro p l e R s m args below meth c C
  refine r_aload_n C rfl rfl dX1_toldKind_0 ?_
  refine r_callV C (sp_isLeaky G ta (by exact la)) kv_X1_isLeaky kn_X1_isLeaky rfl dX1_toldKind_1 cl_X1_101 ⟨Nat.le_of_ble_eq_true rfl, Nat.le_of_ble_eq_true rfl⟩ (by decide) rfl ta la (Nat.le_refl _) rfl (Nat.le_of_ble_eq_true rfl) ?_
  refine t_ifb_eq C 9 (by decide) dX1_toldKind_4 (fun c4 => ?_) (fun c4 => ?_)
  · refine r_aload_n C rfl rfl dX1_toldKind_9 ?_
    refine r_callV C (sp_isSteady G ta (by exact la)) kv_X1_isSteady kn_X1_isSteady rfl dX1_toldKind_10 cl_X1_98 ⟨Nat.le_of_ble_eq_true rfl, Nat.le_of_ble_eq_true rfl⟩ (by decide) rfl ta la (Nat.le_refl _) rfl (Nat.le_of_ble_eq_true rfl) ?_
    refine t_ifb_eq C 18 (by decide) dX1_toldKind_13 (fun c13 => ?_) (fun c13 => ?_)
    · refine r_aload_n C rfl rfl dX1_toldKind_18 ?_
      refine r_callV C (sp_isKnown G ta (by exact la)) kv_X1_isKnown kn_X1_isKnown rfl dX1_toldKind_19 cl_X1_94 ⟨Nat.le_of_ble_eq_true rfl, Nat.le_of_ble_eq_true rfl⟩ (by decide) rfl ta la (Nat.le_refl _) rfl (Nat.le_of_ble_eq_true rfl) ?_
      refine t_ifb_eq C 29 (by decide) dX1_toldKind_22 (fun c22 => ?_) (fun c22 => ?_)
      · refine r_iconstv C 0 rfl dX1_toldKind_29 ?_
        exact r_iret C dX1_toldKind_30 rfl (Nat.le_refl _) (by simp only [tkC]; (repeat' split) <;> first | rfl | omega) rfl
      · refine r_iconstv C 1 rfl dX1_toldKind_25 ?_
        refine r_goto C 30 (by decide) dX1_toldKind_26 ?_
        exact r_iret C dX1_toldKind_30 rfl (Nat.le_refl _) (by simp only [tkC]; (repeat' split) <;> first | rfl | omega) rfl
    · refine r_iconstv C 2 rfl dX1_toldKind_16 ?_
      exact r_iret C dX1_toldKind_17 rfl (Nat.le_refl _) (by simp only [tkC]; (repeat' split) <;> first | rfl | omega) rfl
  · refine r_iconstv C 3 rfl dX1_toldKind_7 ?_
    exact r_iret C dX1_toldKind_8 rfl (Nat.le_refl _) (by simp only [tkC]; (repeat' split) <;> first | rfl | omega) rfl

set_option maxHeartbeats 4000000 in
set_option maxRecDepth 100000 in
theorem sp_isOf0 (G : oG) {h : oH} {a : Nat} (ta : tg a = (0, 1)) (la : a < h.1) : oSp G mX1_isOf [.ref a, .int 0] h (some (.int (b1 True))) h := by
  refine oSp.intro [some (.ref a), some (.int 0)] rfl (Nat.le_of_ble_eq_true rfl) (plainFor_of_name (by decide +kernel)) (Nat.le_refl _) ?_
  intro p l e R s m args below meth c C
  refine r_iload_n C rfl dX1_isOf_0 ?_
  refine r_tableIn C 32 (by rw [show (0 : Int32).toInt = 0 from rfl]; decide) (by rw [show (0 : Int32).toInt = 0 from rfl]; decide) (by rw [show (0 : Int32).toInt = 0 from rfl]; rfl) (by decide) dX1_isOf_1 ?_
  refine r_iconstv C 1 rfl dX1_isOf_32 ?_
  exact r_zret C dX1_isOf_33 rfl rfl (Nat.le_refl _) (er_t trivial) rfl

set_option maxHeartbeats 4000000 in
set_option maxRecDepth 100000 in
theorem sp_isOf1 (G : oG) {h : oH} {a : Nat} (ta : tg a = (0, 1)) (la : a < h.1) : oSp G mX1_isOf [.ref a, .int 1] h (some (.int (b1 (3 ≤ (hI h a 10).toInt ∧ (hI h a 12).toInt = 0)))) h := by
  refine oSp.intro [some (.ref a), some (.int 1)] rfl (Nat.le_of_ble_eq_true rfl) (plainFor_of_name (by decide +kernel)) (Nat.le_refl _) ?_
  intro p l e R s m args below meth c C
  refine r_iload_n C rfl dX1_isOf_0 ?_
  refine r_tableIn C 34 (by rw [show (1 : Int32).toInt = 1 from rfl]; decide) (by rw [show (1 : Int32).toInt = 1 from rfl]; decide) (by rw [show (1 : Int32).toInt = 1 from rfl]; rfl) (by decide) dX1_isOf_1 ?_
  refine r_aload_n C rfl rfl dX1_isOf_34 ?_
  refine r_callV C (sp_isKnown G ta (by exact la)) kv_X1_isKnown kn_X1_isKnown rfl dX1_isOf_35 cl_X1_94 ⟨Nat.le_of_ble_eq_true rfl, Nat.le_of_ble_eq_true rfl⟩ (by decide) rfl ta la (Nat.le_refl _) rfl (Nat.le_of_ble_eq_true rfl) ?_
  exact r_zret C dX1_isOf_38 rfl b1_nar (Nat.le_refl _) rfl rfl

set_option maxHeartbeats 4000000 in
set_option maxRecDepth 100000 in
theorem sp_isOf2 (G : oG) {h : oH} {a : Nat} (ta : tg a = (0, 1)) (la : a < h.1) : oSp G mX1_isOf [.ref a, .int 2] h (some (.int (b1 ((3 ≤ (hI h a 10).toInt ∧ (hI h a 12).toInt = 0) ∧ (hI h a 5).toInt = 0 ∧ (hI h a 7).toInt = 0)))) h := by
  refine oSp.intro [some (.ref a), some (.int 2)] rfl (Nat.le_of_ble_eq_true rfl) (plainFor_of_name (by decide +kernel)) (Nat.le_refl _) ?_
  intro p l e R s m args below meth c C
  refine r_iload_n C rfl dX1_isOf_0 ?_
  refine r_tableIn C 39 (by rw [show (2 : Int32).toInt = 2 from rfl]; decide) (by rw [show (2 : Int32).toInt = 2 from rfl]; decide) (by rw [show (2 : Int32).toInt = 2 from rfl]; rfl) (by decide) dX1_isOf_1 ?_
  refine r_aload_n C rfl rfl dX1_isOf_39 ?_
  refine r_callV C (sp_isSteady G ta (by exact la)) kv_X1_isSteady kn_X1_isSteady rfl dX1_isOf_40 cl_X1_98 ⟨Nat.le_of_ble_eq_true rfl, Nat.le_of_ble_eq_true rfl⟩ (by decide) rfl ta la (Nat.le_refl _) rfl (Nat.le_of_ble_eq_true rfl) ?_
  exact r_zret C dX1_isOf_43 rfl b1_nar (Nat.le_refl _) rfl rfl

set_option maxHeartbeats 4000000 in
set_option maxRecDepth 100000 in
theorem sp_isOf3 (G : oG) {h : oH} {a : Nat} (ta : tg a = (0, 1)) (la : a < h.1) : oSp G mX1_isOf [.ref a, .int 3] h (some (.int (b1 ((hI h a 11).toInt = 1)))) h := by
  refine oSp.intro [some (.ref a), some (.int 3)] rfl (Nat.le_of_ble_eq_true rfl) (plainFor_of_name (by decide +kernel)) (Nat.le_refl _) ?_
  intro p l e R s m args below meth c C
  refine r_iload_n C rfl dX1_isOf_0 ?_
  refine r_tableIn C 44 (by rw [show (3 : Int32).toInt = 3 from rfl]; decide) (by rw [show (3 : Int32).toInt = 3 from rfl]; decide) (by rw [show (3 : Int32).toInt = 3 from rfl]; rfl) (by decide) dX1_isOf_1 ?_
  refine r_aload_n C rfl rfl dX1_isOf_44 ?_
  refine r_callV C (sp_isLeaky G ta (by exact la)) kv_X1_isLeaky kn_X1_isLeaky rfl dX1_isOf_45 cl_X1_101 ⟨Nat.le_of_ble_eq_true rfl, Nat.le_of_ble_eq_true rfl⟩ (by decide) rfl ta la (Nat.le_refl _) rfl (Nat.le_of_ble_eq_true rfl) ?_
  exact r_zret C dX1_isOf_48 rfl b1_nar (Nat.le_refl _) rfl rfl

set_option maxHeartbeats 4000000 in
set_option maxRecDepth 100000 in
theorem sp_become (G : oG) {h : oH} {b : Nat} (tb : tg b = (0, 2)) (lb : b < h.1) (x y z : Int32) : oSp G mX2_become [.ref b, .int x, .int y, .int z] h none (sI (sI (sI h b 0 x) b 1 y) b 2 z) := by
  refine oSp.intro [some (.ref b), some (.int x), some (.int y), some (.int z)] rfl (Nat.le_of_ble_eq_true rfl) (plainFor_of_name (by decide +kernel)) (Nat.le_refl _) ?_
  intro p l e R s m args below meth c C
  refine r_aload_n C rfl rfl dX2_become_0 ?_
  refine r_iload_n C rfl dX2_become_1 ?_
  refine r_putI C dX2_become_2 fl_X2_9 tb lb (Or.inl rfl) ?_
  refine r_aload_n C rfl rfl dX2_become_5 ?_
  refine r_iload_n C rfl dX2_become_6 ?_
  refine r_putI C dX2_become_7 fl_X2_15 tb lb (Or.inl rfl) ?_
  refine r_aload_n C rfl rfl dX2_become_10 ?_
  refine r_iload_n C rfl dX2_become_11 ?_
  refine r_putI C dX2_become_12 fl_X2_18 tb lb (Or.inl rfl) ?_
  exact r_vret C dX2_become_15 rfl (Nat.le_refl _) rfl

set_option maxHeartbeats 4000000 in
set_option maxRecDepth 100000 in
theorem sp_ahead (G : oG) {h : oH} {b : Nat} (tb : tg b = (0, 2)) (lb : b < h.1) (q : Int32) : oSp G mX2_ahead [.ref b, .int q] h (some (.int (mn q (hI h b 1)))) h := by
  refine oSp.intro [some (.ref b), some (.int q)] rfl (Nat.le_of_ble_eq_true rfl) (plainFor_of_name (by decide +kernel)) (Nat.le_refl _) ?_
  intro p l e R s m args below meth c C
  refine r_iload_n C rfl dX2_ahead_0 ?_
  refine r_aload_n C rfl rfl dX2_ahead_1 ?_
  refine r_getI C dX2_ahead_2 fl_X2_15 tb lb ?_
  refine r_callS C (sp_min G _ _) ks_J9_min_7cf53 kn_J9_min_7cf53 rfl dX2_ahead_5 cl_X2_21 ⟨Nat.le_of_ble_eq_true rfl, Nat.le_of_ble_eq_true rfl⟩ (Nat.le_refl _) rfl (Nat.le_of_ble_eq_true rfl) ?_
  exact r_iret C dX2_ahead_8 rfl (Nat.le_refl _) rfl rfl

set_option maxHeartbeats 4000000 in
set_option maxRecDepth 100000 in
theorem sp_useUp (G : oG) {h : oH} {b : Nat} (tb : tg b = (0, 2)) (lb : b < h.1) (q : Int32) : oSp G mX2_useUp [.ref b, .int q] h none (sI h b 1 (hI h b 1 - mn q (hI h b 1))) := by
  refine oSp.intro [some (.ref b), some (.int q)] rfl (Nat.le_of_ble_eq_true rfl) (plainFor_of_name (by decide +kernel)) (Nat.le_refl _) ?_
  intro p l e R s m args below meth c C
  refine r_aload_n C rfl rfl dX2_useUp_0 ?_
  refine r_dup C rfl dX2_useUp_1 ?_
  refine r_getI C dX2_useUp_2 fl_X2_15 tb lb ?_
  refine r_aload_n C rfl rfl dX2_useUp_5 ?_
  refine r_iload_n C rfl dX2_useUp_6 ?_
  refine r_callV C (sp_ahead G tb (by exact lb) _) kv_X2_ahead kn_X2_ahead rfl dX2_useUp_7 cl_X2_27 ⟨Nat.le_of_ble_eq_true rfl, Nat.le_of_ble_eq_true rfl⟩ (by decide) rfl tb lb (Nat.le_refl _) rfl (Nat.le_of_ble_eq_true rfl) ?_
  refine r_isub C dX2_useUp_10 ?_
  refine r_putI C dX2_useUp_11 fl_X2_15 tb lb (Or.inl rfl) ?_
  exact r_vret C dX2_useUp_14 rfl (Nat.le_refl _) rfl
end
section
section O8
variable {G : oG} {M : oM} {p : Program} {l : Launch} {e : Env} {R : Room} {s : State} {m : MethodId} {args : Array Value} {below : List Frame} {meth : Method} {c : Code} {Z : State → Prop} {n0 nF pc : Nat} {L : List (Option Value)} {S : List Value} {h : oH}
theorem j_ifb (C : oC G M n0 nF p l R s m args meth c) {P : Prop} [Decidable P] {off off2 : Int} (tgt : Nat) (ht : (pc : Int) + off = (tgt : Int)) (hJ : (pc : Int) + 4 + off2 = (tgt : Int) + 1) (hd : decode M.2.1 pc = .ok (.ifCond .eq off, 3)) (hd1 : decode M.2.1 (pc + 3) = .ok (.iconst 1, 1)) (hd2 : decode M.2.1 (pc + 4) = .ok (.goto off2, 3)) (hd3 : decode M.2.1 tgt = .ok (.iconst 0, 1)) (k : oS G M p l e R s m args below meth c Z n0 (tgt + 1) L (.int (b1 P) :: S) h) : oS G M p l e R s m args below meth c Z n0 pc L (.int (b1 P) :: S) h := by
  refine t_ifb_eq C tgt ht hd (fun q => ?_) (fun q => ?_)
  · refine r_iconstv C 0 rfl hd3 ?_
    rw [b1_f q] at k
    exact k
  · refine r_iconstv C 1 rfl hd1 (r_goto C (tgt + 1) (by omega) hd2 ?_)
    rw [b1_t q] at k
    exact k
theorem sI_self (h : oH) (a k : Nat) : sI h a k (hI h a k) = h := oH_ext rfl (fun x y => by
  rw [hI_sI]
  split
  next q => rw [q.1, q.2]
  next => rfl) (fun _ _ => rfl) (fun _ _ => rfl)
theorem r_pad (a k : Nat) (kk : oS G M p l e R s m args below meth c Z n0 pc L S (sI h a k (hI h a k))) : oS G M p l e R s m args below meth c Z n0 pc L S h := by
  rw [sI_self] at kk
  exact kk
end O8
set_option maxHeartbeats 4000000 in
set_option maxRecDepth 100000 in
theorem sp_cutC (G : oG) {h : oH} (v n : Int32) : oSp G mX1_cut [.int v, .int n] h (some (.int (cutC v n))) h := by
  refine oSp.intro [some (.int v), some (.int n)] rfl (Nat.le_of_ble_eq_true rfl) (plainFor_of_name (by decide +kernel)) (Nat.le_refl _) ?_
  intro p l e R s m args below meth c C
  refine r_iload_n C rfl dX1_cut_0 ?_
  refine t_if_gt C 8 (by decide) rfl dX1_cut_1 (fun c1 => ?_) (fun c1 => ?_)
  · refine r_iload_n C rfl dX1_cut_8 ?_
    refine r_iload_n C rfl dX1_cut_9 ?_
    refine r_idiv C (fun e => by have c := c1; rw [e] at c; exact absurd c (by decide)) dX1_cut_10 ?_
    exact r_iret C dX1_cut_11 rfl (Nat.le_refl _) (by simp only [cutC]; (repeat' split) <;> first | rfl | omega) rfl
  · refine r_iconstv C 0 rfl dX1_cut_4 ?_
    refine r_goto C 11 (by decide) dX1_cut_5 ?_
    exact r_iret C dX1_cut_11 rfl (Nat.le_refl _) (by simp only [cutC]; (repeat' split) <;> first | rfl | omega) rfl

set_option maxHeartbeats 4000000 in
set_option maxRecDepth 100000 in
theorem sp_rupC (G : oG) {h : oH} (v n : Int32) : oSp G mX1_roundedUp [.int v, .int n] h (some (.int (rupC v n))) h := by
  refine oSp.intro [some (.int v), some (.int n)] rfl (Nat.le_of_ble_eq_true rfl) (plainFor_of_name (by decide +kernel)) (Nat.le_refl _) ?_
  intro p l e R s m args below meth c C
  refine r_iload_n C rfl dX1_roundedUp_0 ?_
  refine t_if_gt C 8 (by decide) rfl dX1_roundedUp_1 (fun c1 => ?_) (fun c1 => ?_)
  · refine r_iload_n C rfl dX1_roundedUp_8 ?_
    refine r_ineg C dX1_roundedUp_9 ?_
    refine r_iload_n C rfl dX1_roundedUp_10 ?_
    refine r_callS C (sp_fdv G _ _ (fun e => by have c := c1; rw [e] at c; exact absurd c (by decide))) ks_J9_floorDiv_7cf53 kn_J9_floorDiv_7cf53 rfl dX1_roundedUp_11 cl_X1_91 ⟨Nat.le_of_ble_eq_true rfl, Nat.le_of_ble_eq_true rfl⟩ (Nat.le_refl _) rfl (Nat.le_of_ble_eq_true rfl) ?_
    refine r_ineg C dX1_roundedUp_14 ?_
    exact r_iret C dX1_roundedUp_15 rfl (Nat.le_refl _) (by simp only [rupC]; (repeat' split) <;> first | rfl | omega) rfl
  · refine r_iconstv C 0 rfl dX1_roundedUp_4 ?_
    refine r_goto C 15 (by decide) dX1_roundedUp_5 ?_
    exact r_iret C dX1_roundedUp_15 rfl (Nat.le_refl _) (by simp only [rupC]; (repeat' split) <;> first | rfl | omega) rfl

set_option maxHeartbeats 4000000 in
set_option maxRecDepth 100000 in
theorem sp_in (G : oG) {h : oH} {v lo hi : Int64} {x a b : Int} (hv : v.toInt = x) (ha : lo.toInt = a) (hb : hi.toInt = b) : oSp G mX6_in [.long v, .long lo, .long hi] h (some (.int (b1 (a ≤ x ∧ x ≤ b)))) h := by
  refine oSp.intro [some (.long v), none, some (.long lo), none, some (.long hi), none] rfl (Nat.le_of_ble_eq_true rfl) (plainFor_of_name (by decide +kernel)) (Nat.le_refl _) ?_
  intro p l e R s m args below meth c C
  refine r_lload_n C rfl dX6_in_0 ?_
  refine r_lload_n C rfl dX6_in_1 ?_
  refine r_lcmp C dX6_in_2 ?_
  refine t_lcmp_lt C 17 (by decide) hv ha dX6_in_3 (fun c3 => ?_) (fun c3 => ?_)
  · refine r_iconstv C 0 rfl dX6_in_17 ?_
    exact r_zret C dX6_in_18 rfl rfl (Nat.le_refl _) (er_f (by omega)) rfl
  · refine r_lload_n C rfl dX6_in_6 ?_
    refine r_lload C rfl dX6_in_7 ?_
    refine r_lcmp C dX6_in_9 ?_
    refine t_lcmp_gt C 17 (by decide) hv hb dX6_in_10 (fun c10 => ?_) (fun c10 => ?_)
    · refine r_iconstv C 0 rfl dX6_in_17 ?_
      exact r_zret C dX6_in_18 rfl rfl (Nat.le_refl _) (er_f (by omega)) rfl
    · refine r_iconstv C 1 rfl dX6_in_13 ?_
      refine r_goto C 18 (by decide) dX6_in_14 ?_
      exact r_zret C dX6_in_18 rfl rfl (Nat.le_refl _) (er_t (by omega)) rfl

set_option maxHeartbeats 4000000 in
set_option maxRecDepth 100000 in
theorem sp_isHouse (G : oG) {h : oH} (hs : oSh h) {n : Nat} (hn : (hI h 12 1).toInt = (n : Int)) (hn24 : n ≤ 24) (v : Int32) : oSp G mX6_isHouse [.ref 12, .int v] h (some (.int (b1 (0 ≤ v.toInt ∧ v.toInt ≤ n - 1)))) h := by
  refine oSp.intro [some (.ref 12), some (.int v)] rfl (Nat.le_of_ble_eq_true rfl) (plainFor_of_name (by decide +kernel)) (Nat.le_refl _) ?_
  intro p l e R s m args below meth c C
  refine r_iload_n C rfl dX6_isHouse_0 ?_
  refine r_i2l C dX6_isHouse_1 ?_
  refine r_lconst C 0 rfl dX6_isHouse_2 ?_
  refine r_aload_n C rfl rfl dX6_isHouse_3 ?_
  refine r_getI C dX6_isHouse_4 fl_X6_93 rfl (q_lt hs (by decide)) ?_
  refine r_iconstv C 1 rfl dX6_isHouse_7 ?_
  refine r_isub C dX6_isHouse_8 ?_
  refine r_i2l C dX6_isHouse_9 ?_
  refine r_callS C (sp_in G (tI2L rfl) (show (0 : Int64).toInt = 0 from rfl) (tI2L (tS hn (show (1 : Int32).toInt = 1 from rfl) (by omega)))) ks_X6_in kn_X6_in rfl dX6_isHouse_10 cl_X6_96 ⟨Nat.le_of_ble_eq_true rfl, Nat.le_of_ble_eq_true rfl⟩ (Nat.le_refl _) rfl (Nat.le_of_ble_eq_true rfl) ?_
  exact r_zret C dX6_isHouse_13 rfl b1_nar (Nat.le_refl _) rfl rfl

set_option maxHeartbeats 4000000 in
set_option maxRecDepth 100000 in
theorem sp_lowOf (G : oG) {h : oH} (hs : oSh h) (v : Int32) {i : Nat} (hv : v.toInt = (i : Int)) (hi : i < 24) (x : Int32) : oSp G mX6_lowOf [.ref 12, .int v, .int x] h (some (.int (hI h 16 (4 * i) + hI h 16 (4 * i + 1) * x))) h := by
  refine oSp.intro [some (.ref 12), some (.int v), some (.int x)] rfl (Nat.le_of_ble_eq_true rfl) (plainFor_of_name (by decide +kernel)) (Nat.le_refl _) ?_
  intro p l e R s m args below meth c C
  refine r_aload_n C rfl rfl dX6_lowOf_0 ?_
  refine r_getO C dX6_lowOf_1 fl_X6_19 rfl rfl (q_lt hs (by decide)) (sh_12_5 hs) ?_
  refine r_iconstv C 4 rfl dX6_lowOf_4 ?_
  refine r_iload_n C rfl dX6_lowOf_5 ?_
  refine r_imul C dX6_lowOf_6 ?_
  refine r_iald C ((4) * (i)) (by have t := (tM (show (4 : Int32).toInt = 4 from rfl) hv (by omega)); omega) (by omega) dX6_lowOf_7 rfl (q_lt hs (by decide)) ?_
  refine r_aload_n C rfl rfl dX6_lowOf_8 ?_
  refine r_getO C dX6_lowOf_9 fl_X6_19 rfl rfl (q_lt hs (by decide)) (sh_12_5 hs) ?_
  refine r_iconstv C 4 rfl dX6_lowOf_12 ?_
  refine r_iload_n C rfl dX6_lowOf_13 ?_
  refine r_imul C dX6_lowOf_14 ?_
  refine r_iconstv C 1 rfl dX6_lowOf_15 ?_
  refine r_iadd C dX6_lowOf_16 ?_
  refine r_iald C (((4) * (i)) + (1)) (by have t := (tA (tM (show (4 : Int32).toInt = 4 from rfl) hv (by omega)) (show (1 : Int32).toInt = 1 from rfl) (by omega)); omega) (by omega) dX6_lowOf_17 rfl (q_lt hs (by decide)) ?_
  refine r_iload_n C rfl dX6_lowOf_18 ?_
  refine r_imul C dX6_lowOf_19 ?_
  refine r_iadd C dX6_lowOf_20 ?_
  exact r_iret C dX6_lowOf_21 rfl (Nat.le_refl _) rfl rfl

set_option maxHeartbeats 4000000 in
set_option maxRecDepth 100000 in
theorem sp_highOf (G : oG) {h : oH} (hs : oSh h) (v : Int32) {i : Nat} (hv : v.toInt = (i : Int)) (hi : i < 24) (x : Int32) : oSp G mX6_highOf [.ref 12, .int v, .int x] h (some (.int (hI h 16 (4 * i + 2) + hI h 16 (4 * i + 3) * x))) h := by
  refine oSp.intro [some (.ref 12), some (.int v), some (.int x)] rfl (Nat.le_of_ble_eq_true rfl) (plainFor_of_name (by decide +kernel)) (Nat.le_refl _) ?_
  intro p l e R s m args below meth c C
  refine r_aload_n C rfl rfl dX6_highOf_0 ?_
  refine r_getO C dX6_highOf_1 fl_X6_19 rfl rfl (q_lt hs (by decide)) (sh_12_5 hs) ?_
  refine r_iconstv C 4 rfl dX6_highOf_4 ?_
  refine r_iload_n C rfl dX6_highOf_5 ?_
  refine r_imul C dX6_highOf_6 ?_
  refine r_iconstv C 2 rfl dX6_highOf_7 ?_
  refine r_iadd C dX6_highOf_8 ?_
  refine r_iald C (((4) * (i)) + (2)) (by have t := (tA (tM (show (4 : Int32).toInt = 4 from rfl) hv (by omega)) (show (2 : Int32).toInt = 2 from rfl) (by omega)); omega) (by omega) dX6_highOf_9 rfl (q_lt hs (by decide)) ?_
  refine r_aload_n C rfl rfl dX6_highOf_10 ?_
  refine r_getO C dX6_highOf_11 fl_X6_19 rfl rfl (q_lt hs (by decide)) (sh_12_5 hs) ?_
  refine r_iconstv C 4 rfl dX6_highOf_14 ?_
  refine r_iload_n C rfl dX6_highOf_15 ?_
  refine r_imul C dX6_highOf_16 ?_
  refine r_iconstv C 3 rfl dX6_highOf_17 ?_
  refine r_iadd C dX6_highOf_18 ?_
  refine r_iald C (((4) * (i)) + (3)) (by have t := (tA (tM (show (4 : Int32).toInt = 4 from rfl) hv (by omega)) (show (3 : Int32).toInt = 3 from rfl) (by omega)); omega) (by omega) dX6_highOf_19 rfl (q_lt hs (by decide)) ?_
  refine r_iload_n C rfl dX6_highOf_20 ?_
  refine r_imul C dX6_highOf_21 ?_
  refine r_iadd C dX6_highOf_22 ?_
  exact r_iret C dX6_highOf_23 rfl (Nat.le_refl _) rfl rfl

abbrev dueP (h : oH) (i : Nat) : Prop := (hI h 18 i).toInt ≤ (hI h 12 17 * (hI h 16 (4 * i + 2) + hI h 16 (4 * i + 3) * hI h 12 18)).toInt
set_option maxHeartbeats 4000000 in
set_option maxRecDepth 100000 in
theorem sp_isDueM (G : oG) {h : oH} (hs : oSh h) (v : Int32) {i : Nat} (hv : v.toInt = (i : Int)) (hi : i < 24) : oSp G mX6_isDue [.ref 12, .int v] h (some (.int (b1 (dueP h i)))) h := by
  refine oSp.intro [some (.ref 12), some (.int v)] rfl (Nat.le_of_ble_eq_true rfl) (plainFor_of_name (by decide +kernel)) (Nat.le_refl _) ?_
  intro p l e R s m args below meth c C
  refine r_aload_n C rfl rfl dX6_isDue_0 ?_
  refine r_getO C dX6_isDue_1 fl_X6_25 rfl rfl (q_lt hs (by decide)) (sh_12_7 hs) ?_
  refine r_iload_n C rfl dX6_isDue_4 ?_
  refine r_iald C (i) (by have t := hv; omega) (by omega) dX6_isDue_5 rfl (q_lt hs (by decide)) ?_
  refine r_aload_n C rfl rfl dX6_isDue_6 ?_
  refine r_getI C dX6_isDue_7 fl_X6_53 rfl (q_lt hs (by decide)) ?_
  refine r_aload_n C rfl rfl dX6_isDue_10 ?_
  refine r_iload_n C rfl dX6_isDue_11 ?_
  refine r_aload_n C rfl rfl dX6_isDue_12 ?_
  refine r_getI C dX6_isDue_13 fl_X6_57 rfl (q_lt hs (by decide)) ?_
  refine r_callV C (sp_highOf G (by exact hs) _ hv hi _) kv_X6_highOf kn_X6_highOf rfl dX6_isDue_16 cl_X6_122 ⟨Nat.le_of_ble_eq_true rfl, Nat.le_of_ble_eq_true rfl⟩ (by decide) rfl rfl (q_lt hs (by decide)) (Nat.le_refl _) rfl (Nat.le_of_ble_eq_true rfl) ?_
  refine r_imul C dX6_isDue_19 ?_
  refine j_icmp_gt0 C 27 (by decide) rfl rfl rfl dX6_isDue_20 dX6_isDue_23 dX6_isDue_24 dX6_isDue_27 ?_
  exact r_zret C dX6_isDue_28 rfl b1_nar (Nat.le_refl _) rfl rfl

def canM (h : oH) (i : Nat) : Int32 := if (hI h 16 (4 * i + 2) + hI h 16 (4 * i + 3) * hI h 12 18).toInt = 0 then 1000 else hI h 18 i / (hI h 16 (4 * i + 2) + hI h 16 (4 * i + 3) * hI h 12 18)
set_option maxHeartbeats 4000000 in
set_option maxRecDepth 100000 in
theorem sp_canGo (G : oG) {h : oH} (hs : oSh h) (v : Int32) {i : Nat} (hv : v.toInt = (i : Int)) (hi : i < 24) : oSp G mX6_canGo [.ref 12, .int v] h (some (.int (canM h i))) h := by
  refine oSp.intro [some (.ref 12), some (.int v), none] rfl (Nat.le_of_ble_eq_true rfl) (plainFor_of_name (by decide +kernel)) (Nat.le_refl _) ?_
  intro p l e R s m args below meth c C
  refine r_aload_n C rfl rfl dX6_canGo_0 ?_
  refine r_iload_n C rfl dX6_canGo_1 ?_
  refine r_aload_n C rfl rfl dX6_canGo_2 ?_
  refine r_getI C dX6_canGo_3 fl_X6_57 rfl (q_lt hs (by decide)) ?_
  refine r_callV C (sp_highOf G (by exact hs) _ hv hi _) kv_X6_highOf kn_X6_highOf rfl dX6_canGo_6 cl_X6_122 ⟨Nat.le_of_ble_eq_true rfl, Nat.le_of_ble_eq_true rfl⟩ (by decide) rfl rfl (q_lt hs (by decide)) (Nat.le_refl _) rfl (Nat.le_of_ble_eq_true rfl) ?_
  refine r_istore_n C rfl (Nat.le_of_ble_eq_true rfl) dX6_canGo_9 ?_
  refine r_iload_n C rfl dX6_canGo_10 ?_
  refine t_if_ne C 20 (by decide) rfl dX6_canGo_11 (fun c11 => ?_) (fun c11 => ?_)
  · refine r_aload_n C rfl rfl dX6_canGo_20 ?_
    refine r_getO C dX6_canGo_21 fl_X6_25 rfl rfl (q_lt hs (by decide)) (sh_12_7 hs) ?_
    refine r_iload_n C rfl dX6_canGo_24 ?_
    refine r_iald C (i) (by have t := hv; omega) (by omega) dX6_canGo_25 rfl (q_lt hs (by decide)) ?_
    refine r_iload_n C rfl dX6_canGo_26 ?_
    refine r_idiv C (fun e => by have c := c11; rw [e] at c; exact absurd rfl c) dX6_canGo_27 ?_
    exact r_iret C dX6_canGo_28 rfl (Nat.le_refl _) (by simp only [canM]; (repeat' split) <;> first | rfl | omega) rfl
  · refine r_sipush C 1000 rfl dX6_canGo_14 ?_
    refine r_goto C 28 (by decide) dX6_canGo_17 ?_
    exact r_iret C dX6_canGo_28 rfl (Nat.le_refl _) (by simp only [canM]; (repeat' split) <;> first | rfl | omega) rfl

set_option maxHeartbeats 4000000 in
set_option maxRecDepth 100000 in
theorem sp_size (G : oG) {h : oH} (x : Int32) : oSp G mX6_size [.int x] h (some (.int (ab x))) h := by
  refine oSp.intro [some (.int x)] rfl (Nat.le_of_ble_eq_true rfl) (plainFor_of_name (by decide +kernel)) (Nat.le_refl _) ?_
  intro p l e R s m args below meth c C
  refine r_iload_n C rfl dX6_size_0 ?_
  refine t_if_ge C 9 (by decide) rfl dX6_size_1 (fun c1 => ?_) (fun c1 => ?_)
  · refine r_iload_n C rfl dX6_size_9 ?_
    exact r_iret C dX6_size_10 rfl (Nat.le_refl _) (by simp only [ab]; (repeat' split) <;> first | rfl | omega) rfl
  · refine r_iload_n C rfl dX6_size_4 ?_
    refine r_ineg C dX6_size_5 ?_
    refine r_goto C 10 (by decide) dX6_size_6 ?_
    exact r_iret C dX6_size_10 rfl (Nat.le_refl _) (by simp only [ab]; (repeat' split) <;> first | rfl | omega) rfl

def mxM (x y : Int32) : Int32 := if y.toInt < x.toInt then x else y
def mnM (x y : Int32) : Int32 := if x.toInt < y.toInt then x else y
def rupM (v n : Int32) : Int32 := if 0 < v.toInt then (v + n - 1) / n else 0
def cutM (v n : Int32) : Int32 := if 0 < v.toInt then v / n else 0
set_option maxHeartbeats 4000000 in
set_option maxRecDepth 100000 in
theorem sp_most (G : oG) {h : oH} (x y : Int32) : oSp G mX6_most [.int x, .int y] h (some (.int (mxM x y))) h := by
  refine oSp.intro [some (.int x), some (.int y)] rfl (Nat.le_of_ble_eq_true rfl) (plainFor_of_name (by decide +kernel)) (Nat.le_refl _) ?_
  intro p l e R s m args below meth c C
  refine r_iload_n C rfl dX6_most_0 ?_
  refine r_iload_n C rfl dX6_most_1 ?_
  refine t_icmp_le C 9 (by decide) rfl rfl dX6_most_2 (fun c2 => ?_) (fun c2 => ?_)
  · refine r_iload_n C rfl dX6_most_9 ?_
    exact r_iret C dX6_most_10 rfl (Nat.le_refl _) (by simp only [mxM]; (repeat' split) <;> first | rfl | omega) rfl
  · refine r_iload_n C rfl dX6_most_5 ?_
    refine r_goto C 10 (by decide) dX6_most_6 ?_
    exact r_iret C dX6_most_10 rfl (Nat.le_refl _) (by simp only [mxM]; (repeat' split) <;> first | rfl | omega) rfl

set_option maxHeartbeats 4000000 in
set_option maxRecDepth 100000 in
theorem sp_least (G : oG) {h : oH} (x y : Int32) : oSp G mX6_least [.int x, .int y] h (some (.int (mnM x y))) h := by
  refine oSp.intro [some (.int x), some (.int y)] rfl (Nat.le_of_ble_eq_true rfl) (plainFor_of_name (by decide +kernel)) (Nat.le_refl _) ?_
  intro p l e R s m args below meth c C
  refine r_iload_n C rfl dX6_least_0 ?_
  refine r_iload_n C rfl dX6_least_1 ?_
  refine t_icmp_ge C 9 (by decide) rfl rfl dX6_least_2 (fun c2 => ?_) (fun c2 => ?_)
  · refine r_iload_n C rfl dX6_least_9 ?_
    exact r_iret C dX6_least_10 rfl (Nat.le_refl _) (by simp only [mnM]; (repeat' split) <;> first | rfl | omega) rfl
  · refine r_iload_n C rfl dX6_least_5 ?_
    refine r_goto C 10 (by decide) dX6_least_6 ?_
    exact r_iret C dX6_least_10 rfl (Nat.le_refl _) (by simp only [mnM]; (repeat' split) <;> first | rfl | omega) rfl

set_option maxHeartbeats 4000000 in
set_option maxRecDepth 100000 in
theorem sp_rupM (G : oG) {h : oH} (v n : Int32) (hn : ¬ n = 0) : oSp G mX6_roundedUp [.int v, .int n] h (some (.int (rupM v n))) h := by
  refine oSp.intro [some (.int v), some (.int n)] rfl (Nat.le_of_ble_eq_true rfl) (plainFor_of_name (by decide +kernel)) (Nat.le_refl _) ?_
  intro p l e R s m args below meth c C
  refine r_iload_n C rfl dX6_roundedUp_0 ?_
  refine t_if_gt C 8 (by decide) rfl dX6_roundedUp_1 (fun c1 => ?_) (fun c1 => ?_)
  · refine r_iload_n C rfl dX6_roundedUp_8 ?_
    refine r_iload_n C rfl dX6_roundedUp_9 ?_
    refine r_iadd C dX6_roundedUp_10 ?_
    refine r_iconstv C 1 rfl dX6_roundedUp_11 ?_
    refine r_isub C dX6_roundedUp_12 ?_
    refine r_iload_n C rfl dX6_roundedUp_13 ?_
    refine r_idiv C hn dX6_roundedUp_14 ?_
    exact r_iret C dX6_roundedUp_15 rfl (Nat.le_refl _) (by simp only [rupM]; (repeat' split) <;> first | rfl | omega) rfl
  · refine r_iconstv C 0 rfl dX6_roundedUp_4 ?_
    refine r_goto C 15 (by decide) dX6_roundedUp_5 ?_
    exact r_iret C dX6_roundedUp_15 rfl (Nat.le_refl _) (by simp only [rupM]; (repeat' split) <;> first | rfl | omega) rfl

set_option maxHeartbeats 4000000 in
set_option maxRecDepth 100000 in
theorem sp_cutM (G : oG) {h : oH} (v n : Int32) (hn : ¬ n = 0) : oSp G mX6_cut [.int v, .int n] h (some (.int (cutM v n))) h := by
  refine oSp.intro [some (.int v), some (.int n)] rfl (Nat.le_of_ble_eq_true rfl) (plainFor_of_name (by decide +kernel)) (Nat.le_refl _) ?_
  intro p l e R s m args below meth c C
  refine r_iload_n C rfl dX6_cut_0 ?_
  refine t_if_gt C 8 (by decide) rfl dX6_cut_1 (fun c1 => ?_) (fun c1 => ?_)
  · refine r_iload_n C rfl dX6_cut_8 ?_
    refine r_iload_n C rfl dX6_cut_9 ?_
    refine r_idiv C hn dX6_cut_10 ?_
    exact r_iret C dX6_cut_11 rfl (Nat.le_refl _) (by simp only [cutM]; (repeat' split) <;> first | rfl | omega) rfl
  · refine r_iconstv C 0 rfl dX6_cut_4 ?_
    refine r_goto C 11 (by decide) dX6_cut_5 ?_
    exact r_iret C dX6_cut_11 rfl (Nat.le_refl _) (by simp only [cutM]; (repeat' split) <;> first | rfl | omega) rfl

def costM (h : oH) (i : Nat) (q : Int32) : Int32 := if (hI h 24 i).toInt = 1 then q * mnM (hI h 12 21) (hI h 26 i) else if (hI h 24 i).toInt = 2 then mnM q (hI h 25 i) * hI h 26 i + (q - mnM q (hI h 25 i)) * hI h 12 21 else 0 * hI h 26 i + (q - 0) * hI h 12 21
set_option maxHeartbeats 4000000 in
set_option maxRecDepth 100000 in
theorem sp_costM (G : oG) {h : oH} (hs : oSh h) (v : Int32) {i : Nat} (hv : v.toInt = (i : Int)) (hi : i < 24) (q : Int32) : oSp G mX6_cost [.ref 12, .int v, .int q] h (some (.int (costM h i q))) h := by
  refine oSp.intro [some (.ref 12), some (.int v), some (.int q), none] rfl (Nat.le_of_ble_eq_true rfl) (plainFor_of_name (by decide +kernel)) (Nat.le_refl _) ?_
  intro p l e R s m args below meth c C
  refine r_aload_n C rfl rfl dX6_cost_0 ?_
  refine r_getO C dX6_cost_1 fl_X6_44 rfl rfl (q_lt hs (by decide)) (sh_12_13 hs) ?_
  refine r_iload_n C rfl dX6_cost_4 ?_
  refine r_iald C (i) (by have t := hv; omega) (by omega) dX6_cost_5 rfl (q_lt hs (by decide)) ?_
  refine r_iconstv C 1 rfl dX6_cost_6 ?_
  refine t_icmp_ne C 26 (by decide) rfl (show (1 : Int32).toInt = 1 from rfl) dX6_cost_7 (fun c7 => ?_) (fun c7 => ?_)
  · refine r_aload_n C rfl rfl dX6_cost_26 ?_
    refine r_getO C dX6_cost_27 fl_X6_44 rfl rfl (q_lt hs (by decide)) (sh_12_13 hs) ?_
    refine r_iload_n C rfl dX6_cost_30 ?_
    refine r_iald C (i) (by have t := hv; omega) (by omega) dX6_cost_31 rfl (q_lt hs (by decide)) ?_
    refine r_iconstv C 2 rfl dX6_cost_32 ?_
    refine t_icmp_ne C 49 (by decide) rfl (show (2 : Int32).toInt = 2 from rfl) dX6_cost_33 (fun c33 => ?_) (fun c33 => ?_)
    · refine r_iconstv C 0 rfl dX6_cost_49 ?_
      refine r_istore_n C rfl (Nat.le_of_ble_eq_true rfl) dX6_cost_50 ?_
      refine r_iload_n C rfl dX6_cost_51 ?_
      refine r_aload_n C rfl rfl dX6_cost_52 ?_
      refine r_getO C dX6_cost_53 fl_X6_50 rfl rfl (q_lt hs (by decide)) (sh_12_15 hs) ?_
      refine r_iload_n C rfl dX6_cost_56 ?_
      refine r_iald C (i) (by have t := hv; omega) (by omega) dX6_cost_57 rfl (q_lt hs (by decide)) ?_
      refine r_imul C dX6_cost_58 ?_
      refine r_iload_n C rfl dX6_cost_59 ?_
      refine r_iload_n C rfl dX6_cost_60 ?_
      refine r_isub C dX6_cost_61 ?_
      refine r_aload_n C rfl rfl dX6_cost_62 ?_
      refine r_getI C dX6_cost_63 fl_X6_63 rfl (q_lt hs (by decide)) ?_
      refine r_imul C dX6_cost_66 ?_
      refine r_iadd C dX6_cost_67 ?_
      exact r_iret C dX6_cost_68 rfl (Nat.le_refl _) (by simp only [costM]; (repeat' split) <;> first | rfl | omega) rfl
    · refine r_iload_n C rfl dX6_cost_36 ?_
      refine r_aload_n C rfl rfl dX6_cost_37 ?_
      refine r_getO C dX6_cost_38 fl_X6_47 rfl rfl (q_lt hs (by decide)) (sh_12_14 hs) ?_
      refine r_iload_n C rfl dX6_cost_41 ?_
      refine r_iald C (i) (by have t := hv; omega) (by omega) dX6_cost_42 rfl (q_lt hs (by decide)) ?_
      refine r_callS C (sp_least G _ _) ks_X6_least kn_X6_least rfl dX6_cost_43 cl_X6_176 ⟨Nat.le_of_ble_eq_true rfl, Nat.le_of_ble_eq_true rfl⟩ (Nat.le_refl _) rfl (Nat.le_of_ble_eq_true rfl) ?_
      refine r_goto C 50 (by decide) dX6_cost_46 ?_
      refine r_istore_n C rfl (Nat.le_of_ble_eq_true rfl) dX6_cost_50 ?_
      refine r_iload_n C rfl dX6_cost_51 ?_
      refine r_aload_n C rfl rfl dX6_cost_52 ?_
      refine r_getO C dX6_cost_53 fl_X6_50 rfl rfl (q_lt hs (by decide)) (sh_12_15 hs) ?_
      refine r_iload_n C rfl dX6_cost_56 ?_
      refine r_iald C (i) (by have t := hv; omega) (by omega) dX6_cost_57 rfl (q_lt hs (by decide)) ?_
      refine r_imul C dX6_cost_58 ?_
      refine r_iload_n C rfl dX6_cost_59 ?_
      refine r_iload_n C rfl dX6_cost_60 ?_
      refine r_isub C dX6_cost_61 ?_
      refine r_aload_n C rfl rfl dX6_cost_62 ?_
      refine r_getI C dX6_cost_63 fl_X6_63 rfl (q_lt hs (by decide)) ?_
      refine r_imul C dX6_cost_66 ?_
      refine r_iadd C dX6_cost_67 ?_
      exact r_iret C dX6_cost_68 rfl (Nat.le_refl _) (by simp only [costM]; (repeat' split) <;> first | rfl | omega) rfl
  · refine r_iload_n C rfl dX6_cost_10 ?_
    refine r_aload_n C rfl rfl dX6_cost_11 ?_
    refine r_getI C dX6_cost_12 fl_X6_63 rfl (q_lt hs (by decide)) ?_
    refine r_aload_n C rfl rfl dX6_cost_15 ?_
    refine r_getO C dX6_cost_16 fl_X6_50 rfl rfl (q_lt hs (by decide)) (sh_12_15 hs) ?_
    refine r_iload_n C rfl dX6_cost_19 ?_
    refine r_iald C (i) (by have t := hv; omega) (by omega) dX6_cost_20 rfl (q_lt hs (by decide)) ?_
    refine r_callS C (sp_least G _ _) ks_X6_least kn_X6_least rfl dX6_cost_21 cl_X6_176 ⟨Nat.le_of_ble_eq_true rfl, Nat.le_of_ble_eq_true rfl⟩ (Nat.le_refl _) rfl (Nat.le_of_ble_eq_true rfl) ?_
    refine r_imul C dX6_cost_24 ?_
    exact r_iret C dX6_cost_25 rfl (Nat.le_refl _) (by simp only [costM]; (repeat' split) <;> first | rfl | omega) rfl

set_option maxHeartbeats 4000000 in
set_option maxRecDepth 100000 in
theorem sp_isOutside (G : oG) {h : oH} {v lo hi : Int32} {x a b : Int} (hv : v.toInt = x) (ha : lo.toInt = a) (hb : hi.toInt = b) : oSp G mX5_isOutside [.int v, .int lo, .int hi] h (some (.int (b1 (x < a ∨ b < x)))) h := by
  refine oSp.intro [some (.int v), some (.int lo), some (.int hi)] rfl (Nat.le_of_ble_eq_true rfl) (plainFor_of_name (by decide +kernel)) (Nat.le_refl _) ?_
  intro p l e R s m args below meth c C
  refine r_iload_n C rfl dX5_isOutside_0 ?_
  refine r_iload_n C rfl dX5_isOutside_1 ?_
  refine t_icmp_lt C 10 (by decide) hv ha dX5_isOutside_2 (fun c2 => ?_) (fun c2 => ?_)
  · refine r_iconstv C 1 rfl dX5_isOutside_10 ?_
    refine r_goto C 15 (by decide) dX5_isOutside_11 ?_
    exact r_zret C dX5_isOutside_15 rfl rfl (Nat.le_refl _) (er_t (by omega)) rfl
  · refine r_iload_n C rfl dX5_isOutside_5 ?_
    refine r_iload_n C rfl dX5_isOutside_6 ?_
    refine t_icmp_le C 14 (by decide) hv hb dX5_isOutside_7 (fun c7 => ?_) (fun c7 => ?_)
    · refine r_iconstv C 0 rfl dX5_isOutside_14 ?_
      exact r_zret C dX5_isOutside_15 rfl rfl (Nat.le_refl _) (er_f (by omega)) rfl
    · refine r_iconstv C 1 rfl dX5_isOutside_10 ?_
      refine r_goto C 15 (by decide) dX5_isOutside_11 ?_
      exact r_zret C dX5_isOutside_15 rfl rfl (Nat.le_refl _) (er_t (by omega)) rfl
end
section
/-! the houses, what is due -/
def hid (i : Nat) : Nat := 35 + 2 * i
def pid (i : Nat) : Nat := 36 + 2 * i
theorem tg_hid (i : Nat) : tg (hid i) = (0, 1) := tg_house i
theorem tg_pid (i : Nat) : tg (pid i) = (0, 2) := tg_plan i
/-- the shape with n houses -/
def oHs (h : oH) (n : Nat) : Prop := oSh h ∧ h.1 = 35 + 2 * n ∧ n ≤ 24 ∧ (∀ j, j < 24 → hR h 1 j = if j < n then some (hid j) else none) ∧ ∀ i, i < n → hR h (hid i) 3 = some (pid i)
theorem oHs.row {h : oH} {n i : Nat} (hh : oHs h n) (hi : i < n) : hR h 1 i = some (hid i) := by
  have h3 := hh.2.2.1
  rw [hh.2.2.2.1 i (by omega), if_pos hi]
theorem oHs.nul {h : oH} {n i : Nat} (hh : oHs h n) (hi : ¬ i < n) (hj : i < 24) : hR h 1 i = none := by rw [hh.2.2.2.1 i hj, if_neg hi]
theorem oHs.lt {h : oH} {n i : Nat} (hh : oHs h n) (hi : i < n) : hid i < h.1 := by
  rw [hh.2.1]
  unfold hid
  omega
theorem oHs.plt {h : oH} {n i : Nat} (hh : oHs h n) (hi : i < n) : pid i < h.1 := by
  rw [hh.2.1]
  unfold pid
  omega
theorem oHs.pl {h : oH} {n i : Nat} (hh : oHs h n) (hi : i < n) : hR h (hid i) 3 = some (pid i) := hh.2.2.2.2 i hi
def sumI (f : Nat → Int32) : Nat → Int32
  | 0 => 0
  | k + 1 => sumI f k + f k
theorem sumI_congr {f g : Nat → Int32} {n : Nat} (h : ∀ j, j < n → f j = g j) : sumI f n = sumI g n := by
  induction n with
  | zero => rfl
  | succ n ih =>
    show sumI f n + f n = sumI g n + g n
    rw [ih (fun j hj => h j (by omega)), h n (by omega)]
theorem sumI_tail {f : Nat → Int32} {n N : Nat} (hN : n ≤ N) (h : ∀ j, n ≤ j → f j = 0) : sumI f N = sumI f n := by
  induction N with
  | zero => rw [Nat.le_zero.mp hN]
  | succ N ih =>
    by_cases e : n = N + 1
    · rw [e]
    · show sumI f N + f N = _
      rw [ih (by omega), h N (by omega), Int32.add_zero]
set_option maxHeartbeats 4000000 in
set_option maxRecDepth 100000 in
theorem sp_houseIn (G : oG) {h : oH} {n : Nat} (hh : oHs h n) (v : Int32) {i : Nat} (hi : i < n) (hv : v.toInt = (i : Int)) : oSp G mX5_houseIn [.ref 1, .int v] h (some (.ref (hid i))) h := by
  have h24 := hh.2.2.1
  refine oSp.intro [some (.ref 1), some (.int v)] rfl (Nat.le_of_ble_eq_true rfl) (plainFor_of_name (by decide +kernel)) (Nat.le_refl _) ?_
  intro p l e R s m args below meth c C
  refine r_aload_n C rfl rfl dX5_houseIn_0 ?_
  refine r_ifnull C dX5_houseIn_1 ?_
  refine r_iload_n C rfl dX5_houseIn_4 ?_
  refine t_if_lt C 14 (by decide) hv dX5_houseIn_5 (fun c5 => absurd c5 (by omega)) (fun c5 => ?_)
  refine r_iload_n C rfl dX5_houseIn_8 ?_
  refine r_aload_n C rfl rfl dX5_houseIn_9 ?_
  refine r_alen C 24 dX5_houseIn_10 rfl (by decide) (q_lt hh.1 (by decide)) rfl ?_
  refine t_icmp_lt C 18 (by decide) hv (show (24 : Int32).toInt = 24 from rfl) dX5_houseIn_11 (fun c11 => ?_) (fun c11 => absurd c11 (by omega))
  refine r_aload_n C rfl rfl dX5_houseIn_18 ?_
  refine r_iload_n C rfl dX5_houseIn_19 ?_
  refine r_aald C (i) (by have t := hv; omega) (by omega) dX5_houseIn_20 rfl (q_lt hh.1 (by decide)) (oHs.row hh hi) ?_
  exact r_aret C (v := some _) dX5_houseIn_21 rfl (Nat.le_refl _) rfl rfl

set_option maxHeartbeats 4000000 in
set_option maxRecDepth 100000 in
theorem sp_houseInN (G : oG) {h : oH} {n : Nat} (hh : oHs h n) (v : Int32) (hv : ¬ (0 ≤ v.toInt ∧ v.toInt < n)) : oSp G mX5_houseIn [.ref 1, .int v] h (some .null) h := by
  have h24 := hh.2.2.1
  refine oSp.intro [some (.ref 1), some (.int v)] rfl (Nat.le_of_ble_eq_true rfl) (plainFor_of_name (by decide +kernel)) (Nat.le_refl _) ?_
  intro p l e R s m args below meth c C
  refine r_aload_n C rfl rfl dX5_houseIn_0 ?_
  refine r_ifnull C dX5_houseIn_1 ?_
  refine r_iload_n C rfl dX5_houseIn_4 ?_
  refine t_if_lt C 14 (by decide) rfl dX5_houseIn_5 (fun c5 => ?_) (fun c5 => ?_)
  · refine r_null C dX5_houseIn_14 ?_
    refine r_goto C 21 (by decide) dX5_houseIn_15 ?_
    exact r_aret C (v := none) dX5_houseIn_21 rfl (Nat.le_refl _) rfl rfl
  · refine r_iload_n C rfl dX5_houseIn_8 ?_
    refine r_aload_n C rfl rfl dX5_houseIn_9 ?_
    refine r_alen C 24 dX5_houseIn_10 rfl (by decide) (q_lt hh.1 (by decide)) rfl ?_
    refine t_icmp_lt C 18 (by decide) rfl (show (24 : Int32).toInt = 24 from rfl) dX5_houseIn_11 (fun c11 => ?_) (fun c11 => ?_)
    · refine r_aload_n C rfl rfl dX5_houseIn_18 ?_
      refine r_iload_n C rfl dX5_houseIn_19 ?_
      refine r_aald C (v.toInt.toNat) (by omega) (by omega) dX5_houseIn_20 rfl (q_lt hh.1 (by decide)) (oHs.nul hh (by omega) (by omega)) ?_
      exact r_aret C (v := none) dX5_houseIn_21 rfl (Nat.le_refl _) rfl rfl
    · refine r_null C dX5_houseIn_14 ?_
      refine r_goto C 21 (by decide) dX5_houseIn_15 ?_
      exact r_aret C (v := none) dX5_houseIn_21 rfl (Nat.le_refl _) rfl rfl

set_option maxHeartbeats 4000000 in
set_option maxRecDepth 100000 in
theorem sp_houseAt (G : oG) {h : oH} {n : Nat} (hh : oHs h n) (v : Int32) {i : Nat} (hi : i < n) (hv : v.toInt = (i : Int)) : oSp G mX5_houseAt [.ref 0, .int v] h (some (.ref (hid i))) h := by
  refine oSp.intro [some (.ref 0), some (.int v)] rfl (Nat.le_of_ble_eq_true rfl) (plainFor_of_name (by decide +kernel)) (Nat.le_refl _) ?_
  intro p l e R s m args below meth c C
  refine r_aload_n C rfl rfl dX5_houseAt_0 ?_
  refine r_getO C dX5_houseAt_1 fl_X5_11 rfl rfl (q_lt hh.1 (by decide)) (sh_0_0 hh.1) ?_
  refine r_iload_n C rfl dX5_houseAt_4 ?_
  refine r_callS C (sp_houseIn G hh _ hi hv) ks_X5_houseIn kn_X5_houseIn rfl dX5_houseAt_5 cl_X5_216 ⟨Nat.le_of_ble_eq_true rfl, Nat.le_of_ble_eq_true rfl⟩ (Nat.le_refl _) rfl (Nat.le_of_ble_eq_true rfl) ?_
  exact r_aret C (v := some _) dX5_houseAt_8 rfl (Nat.le_refl _) rfl rfl

set_option maxHeartbeats 4000000 in
set_option maxRecDepth 100000 in
theorem sp_houseAtN (G : oG) {h : oH} {n : Nat} (hh : oHs h n) (v : Int32) (hv : ¬ (0 ≤ v.toInt ∧ v.toInt < n)) : oSp G mX5_houseAt [.ref 0, .int v] h (some .null) h := by
  refine oSp.intro [some (.ref 0), some (.int v)] rfl (Nat.le_of_ble_eq_true rfl) (plainFor_of_name (by decide +kernel)) (Nat.le_refl _) ?_
  intro p l e R s m args below meth c C
  refine r_aload_n C rfl rfl dX5_houseAt_0 ?_
  refine r_getO C dX5_houseAt_1 fl_X5_11 rfl rfl (q_lt hh.1 (by decide)) (sh_0_0 hh.1) ?_
  refine r_iload_n C rfl dX5_houseAt_4 ?_
  refine r_callS C (sp_houseInN G hh _ hv) ks_X5_houseIn kn_X5_houseIn rfl dX5_houseAt_5 cl_X5_216 ⟨Nat.le_of_ble_eq_true rfl, Nat.le_of_ble_eq_true rfl⟩ (Nat.le_refl _) rfl (Nat.le_of_ble_eq_true rfl) ?_
  exact r_aret C (v := none) dX5_houseAt_8 rfl (Nat.le_refl _) rfl rfl

abbrev dueC (h : oH) (j : Nat) : Prop := (hI h (hid j) 9).toInt ≤ (hI h 0 6 * (hI h (hid j) 6 + hI h (hid j) 7 * hI h 0 7)).toInt
def dueF (h : oH) (n j : Nat) : Int32 := if j < n then b1 (dueC h j) else 0
set_option maxHeartbeats 4000000 in
set_option maxRecDepth 100000 in
theorem lp_countDue (G : oG) {p : Program} {l : Launch} {e : Env} {R : Room} {s : State} {m : MethodId} {args : Array Value} {below : List Frame} {meth : Method} {c : Code} {n0 nF : Nat} {h : oH} {n : Nat} (hh : oHs h n) (C : oC G mX5_countDue n0 nF p l R s m args meth c) (hF : h.1 ≤ nF) : ∀ (k i : Nat) (x y : Int32) (t : Option Value), i + k = 24 → x.toInt = (i : Int) → y = sumI (dueF h n) i → oS G mX5_countDue p l e R s m args below meth c (oZ G below args s n0 nF (some (.int (sumI (dueF h n) 24))) h) n0 13 [some (.ref 0), some (.int y), some (.ref 1), some (.int 24), some (.int x), t] [] h := by
  have h24 := hh.2.2.1
  intro k
  induction k with
  | zero =>
    intro i x y t hik hx hy
    have hi24 : i = 24 := by omega
    subst hi24
    refine r_iload C rfl dX5_countDue_13 ?_
    refine r_iload_n C rfl dX5_countDue_15 ?_
    refine t_icmp_ge C 55 (by decide) hx (show (24 : Int32).toInt = 24 from rfl) dX5_countDue_16 (fun c16 => ?_) (fun c16 => absurd c16 (by omega))
    refine r_iload_n C rfl dX5_countDue_55 ?_
    exact r_iret C dX5_countDue_56 rfl hF (by rw [hy]) rfl
  | succ k ih =>
    intro i x y t hik hx hy
    by_cases hi : i < n
    · refine r_iload C rfl dX5_countDue_13 ?_
      refine r_iload_n C rfl dX5_countDue_15 ?_
      refine t_icmp_ge C 55 (by decide) hx (show (24 : Int32).toInt = 24 from rfl) dX5_countDue_16 (fun c16 => absurd c16 (by omega)) (fun c16 => ?_)
      refine r_aload_n C rfl rfl dX5_countDue_19 ?_
      refine r_iload C rfl dX5_countDue_20 ?_
      refine r_aald C (i) (by have t := hx; omega) (by omega) dX5_countDue_22 rfl (q_lt hh.1 (by decide)) (oHs.row hh hi) ?_
      refine r_astore C rfl rfl (Nat.le_of_ble_eq_true rfl) dX5_countDue_23 ?_
      refine r_aload C rfl rfl dX5_countDue_25 ?_
      refine r_ifnull C dX5_countDue_27 ?_
      refine r_aload C rfl rfl dX5_countDue_30 ?_
      refine r_aload_n C rfl rfl dX5_countDue_32 ?_
      refine r_getI C dX5_countDue_33 fl_X5_43 rfl (q_lt hh.1 (by decide)) ?_
      refine r_aload_n C rfl rfl dX5_countDue_36 ?_
      refine r_getI C dX5_countDue_37 fl_X5_46 rfl (q_lt hh.1 (by decide)) ?_
      refine r_callV C (sp_isDueC G (tg_hid i) (oHs.lt (by exact hh) hi) _ _) kv_X1_isDue kn_X1_isDue rfl dX5_countDue_40 cl_X5_118 ⟨Nat.le_of_ble_eq_true rfl, Nat.le_of_ble_eq_true rfl⟩ (by decide) rfl (tg_hid i) (oHs.lt hh hi) hF rfl (Nat.le_of_ble_eq_true rfl) ?_
      refine t_ifb_eq C 49 (by decide) dX5_countDue_43 (fun c43 => ?_) (fun c43 => ?_)
      · refine r_iinc C rfl rfl (Nat.le_of_ble_eq_true rfl) dX5_countDue_49 ?_
        refine r_goto C 13 (by decide) dX5_countDue_52 ?_
        exact ih (i + 1) _ _ _ (by omega) (by have t := tA hx (show (Int32.ofInt 1).toInt = 1 from rfl) (by omega); omega) (by rw [hy]; show _ = sumI _ i + (if i < n then b1 _ else 0); rw [if_pos hi, b1_f c43]; first | rfl | rw [Int32.add_zero])
      · refine r_iinc C rfl rfl (Nat.le_of_ble_eq_true rfl) dX5_countDue_46 ?_
        refine r_iinc C rfl rfl (Nat.le_of_ble_eq_true rfl) dX5_countDue_49 ?_
        refine r_goto C 13 (by decide) dX5_countDue_52 ?_
        exact ih (i + 1) _ _ _ (by omega) (by have t := tA hx (show (Int32.ofInt 1).toInt = 1 from rfl) (by omega); omega) (by rw [hy]; show _ = sumI _ i + (if i < n then b1 _ else 0); rw [if_pos hi, b1_t c43]; first | rfl | rw [Int32.add_zero])
    · refine r_iload C rfl dX5_countDue_13 ?_
      refine r_iload_n C rfl dX5_countDue_15 ?_
      refine t_icmp_ge C 55 (by decide) hx (show (24 : Int32).toInt = 24 from rfl) dX5_countDue_16 (fun c16 => absurd c16 (by omega)) (fun c16 => ?_)
      refine r_aload_n C rfl rfl dX5_countDue_19 ?_
      refine r_iload C rfl dX5_countDue_20 ?_
      refine r_aald C (i) (by have t := hx; omega) (by omega) dX5_countDue_22 rfl (q_lt hh.1 (by decide)) (oHs.nul hh hi (by omega)) ?_
      refine r_astore C rfl rfl (Nat.le_of_ble_eq_true rfl) dX5_countDue_23 ?_
      refine r_aload C rfl rfl dX5_countDue_25 ?_
      refine r_ifnullN C 49 (by decide) dX5_countDue_27 ?_
      refine r_iinc C rfl rfl (Nat.le_of_ble_eq_true rfl) dX5_countDue_49 ?_
      refine r_goto C 13 (by decide) dX5_countDue_52 ?_
      exact ih (i + 1) _ _ _ (by omega) (by have t := tA hx (show (Int32.ofInt 1).toInt = 1 from rfl) (by omega); omega) (by rw [hy]; show _ = sumI _ i + (if i < n then b1 _ else 0); rw [if_neg hi, Int32.add_zero])

theorem sum_dueF {h : oH} {n : Nat} (hn : n ≤ 24) : sumI (dueF h n) 24 = sumI (fun j => b1 (dueC h j)) n := by
  rw [sumI_tail (f := dueF h n) hn (fun j hj => if_neg (by omega))]
  exact sumI_congr (fun j hj => if_pos hj)
set_option maxHeartbeats 4000000 in
set_option maxRecDepth 100000 in
theorem sp_countDue (G : oG) {h : oH} {n : Nat} (hh : oHs h n) : oSp G mX5_countDue [.ref 0] h (some (.int (sumI (fun j => b1 (dueC h j)) n))) h := by
  rw [← sum_dueF hh.2.2.1]
  refine oSp.intro [some (.ref 0), none, none, none, none, none] rfl (Nat.le_of_ble_eq_true rfl) (plainFor_of_name (by decide +kernel)) (Nat.le_refl _) ?_
  intro p l e R s m args below meth c C
  refine r_iconstv C 0 rfl dX5_countDue_0 ?_
  refine r_istore_n C rfl (Nat.le_of_ble_eq_true rfl) dX5_countDue_1 ?_
  refine r_aload_n C rfl rfl dX5_countDue_2 ?_
  refine r_getO C dX5_countDue_3 fl_X5_11 rfl rfl (q_lt hh.1 (by decide)) (sh_0_0 hh.1) ?_
  refine r_astore_n C rfl rfl (Nat.le_of_ble_eq_true rfl) dX5_countDue_6 ?_
  refine r_aload_n C rfl rfl dX5_countDue_7 ?_
  refine r_alen C 24 dX5_countDue_8 rfl (by decide) (q_lt hh.1 (by decide)) rfl ?_
  refine r_istore_n C rfl (Nat.le_of_ble_eq_true rfl) dX5_countDue_9 ?_
  refine r_iconstv C 0 rfl dX5_countDue_10 ?_
  refine r_istore C rfl (Nat.le_of_ble_eq_true rfl) dX5_countDue_11 ?_
  exact lp_countDue G hh C (Nat.le_refl _) 24 0 _ _ _ rfl rfl rfl

set_option maxHeartbeats 4000000 in
set_option maxRecDepth 100000 in
theorem lp_due (G : oG) {p : Program} {l : Launch} {e : Env} {R : Room} {s : State} {m : MethodId} {args : Array Value} {below : List Frame} {meth : Method} {c : Code} {n0 nF : Nat} {h : oH} (hs : oSh h) {n : Nat} (hn : (hI h 12 1).toInt = (n : Int)) (hn24 : n ≤ 24) (C : oC G mX6_due n0 nF p l R s m args meth c) (hF : h.1 ≤ nF) : ∀ (k i : Nat) (x y : Int32), i + k = n → x.toInt = (i : Int) → y = sumI (fun j => b1 (dueP h j)) i → oS G mX6_due p l e R s m args below meth c (oZ G below args s n0 nF (some (.int (sumI (fun j => b1 (dueP h j)) n))) h) n0 4 [some (.ref 12), some (.int y), some (.int x)] [] h := by
  intro k
  induction k with
  | zero =>
    intro i x y hik hx hy
    have hin : i = n := by omega
    subst hin
    refine r_iload_n C rfl dX6_due_4 ?_
    refine r_aload_n C rfl rfl dX6_due_5 ?_
    refine r_getI C dX6_due_6 fl_X6_93 rfl (q_lt hs (by decide)) ?_
    refine t_icmp_ge C 34 (by decide) hx hn dX6_due_9 (fun c9 => ?_) (fun c9 => absurd c9 (by omega))
    refine r_iload_n C rfl dX6_due_34 ?_
    exact r_iret C dX6_due_35 rfl hF (by rw [hy]) rfl
  | succ k ih =>
    intro i x y hik hx hy
    refine r_iload_n C rfl dX6_due_4 ?_
    refine r_aload_n C rfl rfl dX6_due_5 ?_
    refine r_getI C dX6_due_6 fl_X6_93 rfl (q_lt hs (by decide)) ?_
    refine t_icmp_ge C 34 (by decide) hx hn dX6_due_9 (fun c9 => absurd c9 (by omega)) (fun c9 => ?_)
    refine r_iload_n C rfl dX6_due_12 ?_
    refine r_aload_n C rfl rfl dX6_due_13 ?_
    refine r_iload_n C rfl dX6_due_14 ?_
    refine r_callV C (sp_isDueM G (by exact hs) _ hx (by omega)) kv_X6_isDue kn_X6_isDue rfl dX6_due_15 cl_X6_125 ⟨Nat.le_of_ble_eq_true rfl, Nat.le_of_ble_eq_true rfl⟩ (by decide) rfl rfl (q_lt hs (by decide)) hF rfl (Nat.le_of_ble_eq_true rfl) ?_
    refine j_ifb C 25 (by decide) rfl dX6_due_18 dX6_due_21 dX6_due_22 dX6_due_25 ?_
    refine r_iadd C dX6_due_26 ?_
    refine r_istore_n C rfl (Nat.le_of_ble_eq_true rfl) dX6_due_27 ?_
    refine r_iinc C rfl rfl (Nat.le_of_ble_eq_true rfl) dX6_due_28 ?_
    refine r_goto C 4 (by decide) dX6_due_31 ?_
    exact ih (i + 1) _ _ (by omega) (by have t := tA hx (show (Int32.ofInt 1).toInt = 1 from rfl) (by omega); omega) (by rw [hy]; rfl)

set_option maxHeartbeats 4000000 in
set_option maxRecDepth 100000 in
theorem sp_due (G : oG) {h : oH} (hs : oSh h) {n : Nat} (hn : (hI h 12 1).toInt = (n : Int)) (hn24 : n ≤ 24) : oSp G mX6_due [.ref 12] h (some (.int (sumI (fun j => b1 (dueP h j)) n))) h := by
  refine oSp.intro [some (.ref 12), none, none] rfl (Nat.le_of_ble_eq_true rfl) (plainFor_of_name (by decide +kernel)) (Nat.le_refl _) ?_
  intro p l e R s m args below meth c C
  refine r_iconstv C 0 rfl dX6_due_0 ?_
  refine r_istore_n C rfl (Nat.le_of_ble_eq_true rfl) dX6_due_1 ?_
  refine r_iconstv C 0 rfl dX6_due_2 ?_
  refine r_istore_n C rfl (Nat.le_of_ble_eq_true rfl) dX6_due_3 ?_
  exact lp_due G hs hn hn24 C (Nat.le_refl _) n 0 _ _ (by omega) rfl rfl
end
section
/-! what stands between two calls: the class and the reference hold the same -/
def oHe (h : oH) (i : Nat) : Prop := hI h (hid i) 0 = hI h 13 i ∧ hI h (hid i) 1 = hI h 14 i ∧ hI h (hid i) 2 = hI h 15 i ∧ hI h (hid i) 4 = hI h 16 (4 * i) ∧ hI h (hid i) 5 = hI h 16 (4 * i + 1) ∧ hI h (hid i) 6 = hI h 16 (4 * i + 2) ∧ hI h (hid i) 7 = hI h 16 (4 * i + 3) ∧ hI h (hid i) 8 = hI h 17 i ∧ hI h (hid i) 9 = hI h 18 i ∧ hI h (hid i) 10 = hI h 19 i ∧ hI h (hid i) 11 = hI h 20 i ∧ hI h (hid i) 12 = hI h 21 i ∧ hI h (hid i) 13 = hI h 22 i ∧ hI h (hid i) 14 = hI h 23 i ∧ hI h (pid i) 0 = hI h 24 i ∧ hI h (pid i) 1 = hI h 25 i ∧ hI h (pid i) 2 = hI h 26 i
def oHb (h : oH) (i T : Nat) : Prop := (0 ≤ (hI h 13 i).toInt ∧ (hI h 13 i).toInt ≤ 50) ∧ (0 ≤ (hI h 14 i).toInt ∧ (hI h 14 i).toInt ≤ 50) ∧ (100 ≤ (hI h 15 i).toInt ∧ (hI h 15 i).toInt ≤ 5000) ∧ (0 ≤ (hI h 16 (4 * i)).toInt ∧ (hI h 16 (4 * i)).toInt ≤ (hI h 16 (4 * i + 2)).toInt ∧ (hI h 16 (4 * i + 2)).toInt ≤ 50) ∧ (0 ≤ (hI h 16 (4 * i + 1)).toInt ∧ (hI h 16 (4 * i + 1)).toInt ≤ (hI h 16 (4 * i + 3)).toInt ∧ (hI h 16 (4 * i + 3)).toInt ≤ 50) ∧ (0 ≤ (hI h 17 i).toInt ∧ (hI h 17 i).toInt ≤ (hI h 15 i).toInt) ∧ (0 ≤ (hI h 18 i).toInt ∧ (hI h 18 i).toInt ≤ (hI h 15 i).toInt) ∧ (0 ≤ (hI h 19 i).toInt ∧ (hI h 19 i).toInt ≤ T) ∧ (0 ≤ (hI h 20 i).toInt ∧ (hI h 20 i).toInt ≤ 2) ∧ ((hI h 21 i).toInt = 0 ∨ (hI h 21 i).toInt = 1) ∧ ((hI h 20 i).toInt = 1 → (hI h 21 i).toInt = 1) ∧ (0 ≤ (hI h 22 i).toInt ∧ (hI h 22 i).toInt ≤ T) ∧ (0 ≤ (hI h 23 i).toInt ∧ (hI h 23 i).toInt ≤ 40 * (hI h 22 i).toInt) ∧ (0 ≤ (hI h 24 i).toInt ∧ (hI h 24 i).toInt ≤ 2) ∧ (0 ≤ (hI h 25 i).toInt ∧ (hI h 25 i).toInt ≤ 99999) ∧ (0 ≤ (hI h 26 i).toInt ∧ (hI h 26 i).toInt ≤ 99999) ∧ ((hI h 24 i).toInt ≠ 2 → (hI h 25 i).toInt = 0)
def oSc (h : oH) (T : Nat) : Prop := (hI h 0 5 = hI h 12 16 ∧ 0 ≤ (hI h 12 16).toInt ∧ (hI h 12 16).toInt ≤ T) ∧ (hI h 0 6 = hI h 12 17 ∧ 0 ≤ (hI h 12 17).toInt ∧ (hI h 12 17).toInt ≤ 10) ∧ (hI h 0 7 = hI h 12 18 ∧ 0 ≤ (hI h 12 18).toInt ∧ (hI h 12 18).toInt ≤ 40) ∧ (hI h 0 8 = hI h 12 20 ∧ 100 ≤ (hI h 12 20).toInt ∧ (hI h 12 20).toInt ≤ 9000) ∧ (hI h 0 9 = hI h 12 21 ∧ 0 ≤ (hI h 12 21).toInt ∧ (hI h 12 21).toInt ≤ 1000) ∧ (hI h 0 10 = hI h 12 19 ∧ 0 ≤ (hI h 12 19).toInt ∧ (hI h 12 19).toInt ≤ 100000) ∧ hJ h 0 11 = hJ h 12 22 ∧ hJ h 0 12 = hJ h 12 23 ∧ hJ h 0 13 = hJ h 12 24
/-- the tape: z bytes on it -/
def oTx (h : oH) : Prop := hI h 8 2 = hI h 12 30 ∧ ∃ z : Nat, z ≤ 300 ∧ (hI h 8 1).toInt = (z : Int) ∧ (hI h 12 29).toInt = (z : Int) ∧ ∀ j, j < z → (0 ≤ (hI h 29 j).toInt ∧ (hI h 29 j).toInt ≤ 255) ∧ hI h 9 j &&& 255 = hI h 29 j
/-- the trace -/
def oAs (h : oH) : Prop := ∃ z : Nat, z ≤ 16 ∧ (hI h 10 1).toInt = (z : Int) ∧ (hI h 12 44).toInt = (z : Int) ∧ ∀ j, j < z → hI h 11 j = hI h 34 j
def oCnt (h : oH) (n : Nat) : Prop := (hI h 0 4).toInt = (n : Int) ∧ (hI h 12 1).toInt = (n : Int)
theorem oHe.fr {h h' : oH} {i : Nat} (q : oHe h i) (e : ∀ a k, (a = hid i ∨ a = pid i ∨ (13 ≤ a ∧ a ≤ 26)) → hI h' a k = hI h a k) : oHe h' i := by
  unfold oHe at q ⊢
  have e1 : ∀ k, hI h' (hid i) k = hI h (hid i) k := fun k => e _ k (Or.inl rfl)
  have e2 : ∀ k, hI h' (pid i) k = hI h (pid i) k := fun k => e _ k (Or.inr (Or.inl rfl))
  have e3 : ∀ a, 13 ≤ a → a ≤ 26 → ∀ k, hI h' a k = hI h a k := fun a l1 l2 k => e a k (Or.inr (Or.inr ⟨l1, l2⟩))
  simp only [e1, e2, e3 13 (by decide) (by decide), e3 14 (by decide) (by decide), e3 15 (by decide) (by decide), e3 16 (by decide) (by decide), e3 17 (by decide) (by decide), e3 18 (by decide) (by decide), e3 19 (by decide) (by decide), e3 20 (by decide) (by decide), e3 21 (by decide) (by decide), e3 22 (by decide) (by decide), e3 23 (by decide) (by decide), e3 24 (by decide) (by decide), e3 25 (by decide) (by decide), e3 26 (by decide) (by decide)]
  exact q
theorem oHb.fr {h h' : oH} {i T : Nat} (q : oHb h i T) (e : ∀ a k, (13 ≤ a ∧ a ≤ 26) → hI h' a k = hI h a k) : oHb h' i T := by
  unfold oHb at q ⊢
  have e3 : ∀ a, 13 ≤ a → a ≤ 26 → ∀ k, hI h' a k = hI h a k := fun a l1 l2 k => e a k ⟨l1, l2⟩
  simp only [e3 13 (by decide) (by decide), e3 14 (by decide) (by decide), e3 15 (by decide) (by decide), e3 16 (by decide) (by decide), e3 17 (by decide) (by decide), e3 18 (by decide) (by decide), e3 19 (by decide) (by decide), e3 20 (by decide) (by decide), e3 21 (by decide) (by decide), e3 22 (by decide) (by decide), e3 23 (by decide) (by decide), e3 24 (by decide) (by decide), e3 25 (by decide) (by decide), e3 26 (by decide) (by decide)]
  exact q
theorem oHb.mono {h : oH} {i T T' : Nat} (q : oHb h i T) (hT : T ≤ T') : oHb h i T' := by
  unfold oHb at q ⊢
  obtain ⟨q1, q2, q3, q4, q5, q6, q7, q8, q9, q10, q11, q12, q13⟩ := q
  exact ⟨q1, q2, q3, q4, q5, q6, q7, ⟨q8.1, by omega⟩, q9, q10, q11, ⟨q12.1, by omega⟩, q13⟩
theorem oSc.mono {h : oH} {T T' : Nat} (q : oSc h T) (hT : T ≤ T') : oSc h T' := by
  unfold oSc at q ⊢
  obtain ⟨q1, q2⟩ := q
  exact ⟨⟨q1.1, q1.2.1, by omega⟩, q2⟩
end
section
/-! rounds, by numbers: spots are places in the list of the set's houses, 8 is the depot -/
def mem (K : Nat) : List Nat := (List.range 24).filter (fun j => K.testBit j)
def aI (x : Int) : Int := max x (-x)
def sX (h : oH) (l : List Nat) (a : Nat) : Int := if a = 8 then 25 else (hI h 13 (l.getD a 0)).toInt
def sY (h : oH) (l : List Nat) (a : Nat) : Int := if a = 8 then 25 else (hI h 14 (l.getD a 0)).toInt
def sD (h : oH) (l : List Nat) (a b : Nat) : Int := aI (sX h l a - sX h l b) + aI (sY h l a - sY h l b)
def mnO (f : Nat → Int) (P : Nat → Bool) : Nat → Option Int
  | 0 => none
  | j + 1 => if P j = true then (match mnO f P j with
    | none => some (f j)
    | some b => some (min b (f j))) else mnO f P j
def wV (D : Nat → Nat → Int) (m : Nat) : Nat → Nat → Nat → Int
  | 0, _, k => D k 8
  | f + 1, left, k => if left = 0 then D k 8 else (mnO (fun j => D k j + wV D m f (left - 2 ^ j) j) (fun j => left.testBit j) m).getD 0
def wy (D : Nat → Nat → Int) (m left k : Nat) : Int := wV D m left left k
def nx (D : Nat → Nat → Int) (m left k : Nat) : Nat := ((List.range m).find? (fun j => left.testBit j && decide (D k j + wy D m (left - 2 ^ j) j = wy D m left k))).getD 0
def och (D : Nat → Nat → Int) (m : Nat) : Nat → Nat × Nat
  | 0 => (2 ^ m - 1, 8)
  | i + 1 => ((och D m i).1 - 2 ^ (nx D m (och D m i).1 (och D m i).2), nx D m (och D m i).1 (och D m i).2)
/-- what the class keeps of its latest round -/
def oRt (h : oH) (n : Nat) : Prop := (hI h 2 5).toInt = 0 ∨ ∃ K : Nat, 0 < K ∧ K < 2 ^ n ∧ (mem K).length ≤ 8 ∧ (hI h 2 5).toInt = (K : Int) ∧ (hI h 2 6).toInt = ((mem K).length : Int) ∧ (hI h 7 ((2 ^ (mem K).length - 1) * 9 + 8)).toInt = wy (sD h (mem K)) (mem K).length (2 ^ (mem K).length - 1) 8 ∧ ∀ i, i < (mem K).length → (hI h 6 i).toInt = (((mem K).getD (och (sD h (mem K)) (mem K).length (i + 1)).2 0 : Nat) : Int)
theorem mem_lt {K n j : Nat} (hK : K < 2 ^ n) (h : j ∈ mem K) : j < n := by
  have h1 := (List.mem_filter.mp h).2
  have h2 := Nat.ge_two_pow_of_testBit h1
  rcases Nat.lt_or_ge j n with q | q
  · exact q
  · have := Nat.pow_le_pow_right (n := 2) (by decide) q
    omega
theorem mem_getD {K n a : Nat} (hK : K < 2 ^ n) (h0 : 0 < n) : (mem K).getD a 0 < n := by
  rw [List.getD_eq_getElem?_getD]
  cases q : (mem K)[a]? with
  | none => exact h0
  | some j => exact mem_lt hK (List.mem_of_getElem? q)
theorem sD_fr {h h' : oH} {K n : Nat} (hK : K < 2 ^ n) (h0 : 0 < n) (ex : ∀ j, j < n → hI h' 13 j = hI h 13 j) (ey : ∀ j, j < n → hI h' 14 j = hI h 14 j) : sD h' (mem K) = sD h (mem K) := by
  funext a b
  have e1 : ∀ a, sX h' (mem K) a = sX h (mem K) a := fun a => by
    unfold sX
    rw [ex _ (mem_getD hK h0)]
  have e2 : ∀ a, sY h' (mem K) a = sY h (mem K) a := fun a => by
    unfold sY
    rw [ey _ (mem_getD hK h0)]
  unfold sD
  rw [e1, e1, e2, e2]
theorem oRt.fr {h h' : oH} {n n' : Nat} (q : oRt h n) (hn : n ≤ n') (ex : ∀ j, j < n → hI h' 13 j = hI h 13 j) (ey : ∀ j, j < n → hI h' 14 j = hI h 14 j) (e : ∀ a k, (a = 2 ∨ a = 6 ∨ a = 7) → hI h' a k = hI h a k) : oRt h' n' := by
  rcases q with q | ⟨K, k0, k1, k2, k3, k4, k5, k6⟩
  · left
    rw [e 2 5 (Or.inl rfl)]
    exact q
  · right
    have hn0 : 0 < n := by
      rcases Nat.eq_zero_or_pos n with z | z
      · rw [z] at k1
        omega
      · exact z
    refine ⟨K, k0, Nat.lt_of_lt_of_le k1 (Nat.pow_le_pow_right (by decide) hn), k2, by rw [e 2 5 (Or.inl rfl)]; exact k3, by rw [e 2 6 (Or.inl rfl)]; exact k4, ?_, ?_⟩
    · rw [sD_fr k1 hn0 ex ey, e 7 _ (Or.inr (Or.inr rfl))]
      exact k5
    · rw [sD_fr k1 hn0 ex ey]
      intro i hi
      rw [e 6 _ (Or.inr (Or.inl rfl))]
      exact k6 i hi
def Inv (h : oH) (n T : Nat) : Prop := oHs h n ∧ oCnt h n ∧ oSc h T ∧ (∀ i, i < n → oHe h i ∧ oHb h i T) ∧ oTx h ∧ oAs h ∧ oRt h n
theorem oTx.fr {h h' : oH} (q : oTx h) (e : ∀ a k, (a = 8 ∨ a = 9 ∨ a = 29) → hI h' a k = hI h a k) (e1 : hI h' 12 29 = hI h 12 29) (e2 : hI h' 12 30 = hI h 12 30) : oTx h' := by
  obtain ⟨q0, z, q1, q2, q3, q4⟩ := q
  refine ⟨by rw [e2, e 8 2 (Or.inl rfl)]; exact q0, z, q1, by rw [e 8 1 (Or.inl rfl)]; exact q2, by rw [e1]; exact q3, fun j hj => ?_⟩
  rw [e 29 j (Or.inr (Or.inr rfl)), e 9 j (Or.inr (Or.inl rfl))]
  exact q4 j hj
theorem oAs.fr {h h' : oH} (q : oAs h) (e : ∀ a k, (a = 10 ∨ a = 11 ∨ a = 34) → hI h' a k = hI h a k) (e1 : hI h' 12 44 = hI h 12 44) : oAs h' := by
  obtain ⟨z, q1, q2, q3, q4⟩ := q
  refine ⟨z, q1, by rw [e 10 1 (Or.inl rfl)]; exact q2, by rw [e1]; exact q3, fun j hj => ?_⟩
  rw [e 11 j (Or.inr (Or.inl rfl)), e 34 j (Or.inr (Or.inr rfl))]
  exact q4 j hj
theorem oHs.fr {h h' : oH} {n : Nat} (q : oHs h n) (en : h'.1 = h.1) (er : ∀ a k, hR h' a k = hR h a k) : oHs h' n := by
  unfold oHs oSh at q ⊢
  simp only [en, er]
  exact q
/-- only numbers of the two objects themselves have changed -/
theorem Inv.sc {h h' : oH} {n T T' : Nat} (I : Inv h n T) (hT : T ≤ T') (en : h'.1 = h.1) (er : ∀ a k, hR h' a k = hR h a k) (e : ∀ a k, a ≠ 0 → a ≠ 12 → hI h' a k = hI h a k) (e0 : hI h' 0 4 = hI h 0 4) (e1 : hI h' 12 1 = hI h 12 1) (e2 : hI h' 12 29 = hI h 12 29) (e3 : hI h' 12 30 = hI h 12 30) (e4 : hI h' 12 44 = hI h 12 44) (s : oSc h' T') : Inv h' n T' := by
  obtain ⟨i1, i2, i3, i4, i5, i6, i7⟩ := I
  refine ⟨i1.fr en er, ⟨by rw [e0]; exact i2.1, by rw [e1]; exact i2.2⟩, s, fun i hi => ⟨(i4 i hi).1.fr (fun a k ha => e a k ?_ ?_), ((i4 i hi).2.fr (fun a k ha => e a k ?_ ?_)).mono hT⟩, i5.fr (fun a k ha => e a k ?_ ?_) e2 e3, i6.fr (fun a k ha => e a k ?_ ?_) e4, i7.fr (Nat.le_refl _) (fun j _ => e 13 j ?_ ?_) (fun j _ => e 14 j ?_ ?_) (fun a k ha => e a k ?_ ?_)⟩ <;> (try unfold hid pid at ha) <;> omega
theorem Inv.mono {h : oH} {n T T' : Nat} (I : Inv h n T) (hT : T ≤ T') : Inv h n T' := I.sc hT rfl (fun _ _ => rfl) (fun _ _ _ _ => rfl) rfl rfl rfl rfl rfl (I.2.2.1.mono hT)
theorem Inv.th {h : oH} {n T : Nat} (I : Inv h n T) (v : Int32) : Inv (sI h 12 0 v) n T := I.sc (Nat.le_refl _) rfl (fun _ _ => rfl) (fun a k _ ha => if_neg (fun q => ha q.1)) rfl rfl rfl rfl rfl I.2.2.1
/-- a call of the law's, on both sides -/
def Case (G : oG) (mc mm : oM) (as : List Value) (h : oH) (n T : Nat) : Prop := ∃ (r : Int32) (h1 h2 : oH) (n' : Nat), oSp G mc (.ref 0 :: as) h (some (.int r)) h1 ∧ oSp G mm (.ref 12 :: as) h1 (some (.int r)) h2 ∧ Inv h2 n' (T + 1)
end
section
/-! asks: what a body leaves in the trace, on both sides -/
def pC (h : oH) (z : Nat) (v : Int32) : oH := sI (sI h 11 z v) 10 1 (hI h 10 1 + 1)
def pM (h : oH) (z : Nat) (v : Int32) : oH := sI (sI h 34 z v) 12 44 (hI h 12 44 + 1)
theorem pC_o {h : oH} {z a k : Nat} {v : Int32} (h1 : a ≠ 10) (h2 : a ≠ 11) : hI (pC h z v) a k = hI h a k := by
  unfold pC
  rw [hI_sI, if_neg (fun q => h1 q.1), hI_sI, if_neg (fun q => h2 q.1)]
theorem pM_o {h : oH} {z a k : Nat} {v : Int32} (h1 : a ≠ 12) (h2 : a ≠ 34) : hI (pM h z v) a k = hI h a k := by
  unfold pM
  rw [hI_sI, if_neg (fun q => h1 q.1), hI_sI, if_neg (fun q => h2 q.1)]
theorem zz {h : oH} {z : Nat} {x : Int32} (hz : x.toInt = (z : Int)) (hl : z ≤ 16) : (x + 1).toInt = ((z + 1 : Nat) : Int) := by
  have t := tA hz (show (1 : Int32).toInt = 1 from rfl) (by omega)
  omega
set_option maxHeartbeats 4000000 in
set_option maxRecDepth 100000 in
theorem sp_begin (G : oG) {h : oH} (hs : oSh h) {z : Nat} (hz : (hI h 10 1).toInt = (z : Int)) (hl : z < 16) (v : Int32) : oSp G mX0_begin [.ref 10, .int v] h none (pC h z v) := by
  refine oSp.intro [some (.ref 10), some (.int v)] rfl (Nat.le_of_ble_eq_true rfl) (plainFor_of_name (by decide +kernel)) (Nat.le_refl _) ?_
  intro p l e R s m args below meth c C
  refine r_aload_n C rfl rfl dX0_begin_0 ?_
  refine r_getI C dX0_begin_1 fl_X0_15 rfl (q_lt hs (by decide)) ?_
  refine t_if_lt C 19 (by decide) hz dX0_begin_4 (fun c4 => absurd c4 (by omega)) (fun c4 => ?_)
  refine r_aload_n C rfl rfl dX0_begin_7 ?_
  refine r_getI C dX0_begin_8 fl_X0_15 rfl (q_lt hs (by decide)) ?_
  refine r_aload_n C rfl rfl dX0_begin_11 ?_
  refine r_getO C dX0_begin_12 fl_X0_9 rfl rfl (q_lt hs (by decide)) (sh_10_0 hs) ?_
  refine r_alen C 16 dX0_begin_15 rfl (by decide) (q_lt hs (by decide)) rfl ?_
  refine t_icmp_lt C 20 (by decide) hz (show (16 : Int32).toInt = 16 from rfl) dX0_begin_16 (fun c16 => ?_) (fun c16 => absurd c16 (by omega))
  refine r_aload_n C rfl rfl dX0_begin_20 ?_
  refine r_getO C dX0_begin_21 fl_X0_9 rfl rfl (q_lt hs (by decide)) (sh_10_0 hs) ?_
  refine r_aload_n C rfl rfl dX0_begin_24 ?_
  refine r_getI C dX0_begin_25 fl_X0_15 rfl (q_lt hs (by decide)) ?_
  refine r_iload_n C rfl dX0_begin_28 ?_
  refine r_iast C (z) (by have t := hz; omega) (by omega) dX0_begin_29 rfl (q_lt hs (by decide)) ?_
  refine r_aload_n C rfl rfl dX0_begin_30 ?_
  refine r_dup C rfl dX0_begin_31 ?_
  refine r_getI C dX0_begin_32 fl_X0_15 rfl (q_lt hs (by decide)) ?_
  refine r_iconstv C 1 rfl dX0_begin_35 ?_
  refine r_iadd C dX0_begin_36 ?_
  refine r_putI C dX0_begin_37 fl_X0_15 rfl (q_lt hs (by decide)) (Or.inl rfl) ?_
  exact r_vret C dX0_begin_40 rfl (Nat.le_refl _) rfl

set_option maxHeartbeats 4000000 in
set_option maxRecDepth 100000 in
theorem sp_empty (G : oG) {h : oH} (hs : oSh h) : oSp G mX0_emptyTrace [.ref 10] h none (sI h 10 1 0) := by
  refine oSp.intro [some (.ref 10)] rfl (Nat.le_of_ble_eq_true rfl) (plainFor_of_name (by decide +kernel)) (Nat.le_refl _) ?_
  intro p l e R s m args below meth c C
  refine r_aload_n C rfl rfl dX0_emptyTrace_0 ?_
  refine r_iconstv C 0 rfl dX0_emptyTrace_1 ?_
  refine r_putI C dX0_emptyTrace_2 fl_X0_15 rfl (q_lt hs (by decide)) (Or.inl rfl) ?_
  exact r_vret C dX0_emptyTrace_5 rfl (Nat.le_refl _) rfl

set_option maxHeartbeats 4000000 in
set_option maxRecDepth 100000 in
theorem sp_lentW (G : oG) {h : oH} (hs : oSh h) {a : Nat} (ta : tg a = (0, 1)) (la : a < h.1) (h35 : 35 ≤ a) {z : Nat} (hz : (hI h 10 1).toInt = (z : Int)) (hl : z + 0 < 16) : oSp G mX0_lentWeight [.ref 10, .ref a] h (some (.int (hI h a 8 - hI h a 9))) (pC h z 10) := by
  refine oSp.intro [some (.ref 10), some (.ref a)] rfl (Nat.le_of_ble_eq_true rfl) (plainFor_of_name (by decide +kernel)) (Nat.le_refl _) ?_
  intro p l e R s m args below meth c C
  refine r_aload_n C rfl rfl dX0_lentWeight_0 ?_
  refine r_bipush C 10 rfl dX0_lentWeight_1 ?_
  refine r_callV C (sp_begin G (by exact hs) (by exact hz) (by omega) _) kv_X0_begin kn_X0_begin rfl dX0_lentWeight_3 cl_X0_48 ⟨Nat.le_of_ble_eq_true rfl, Nat.le_of_ble_eq_true rfl⟩ (by decide) rfl rfl (q_lt hs (by decide)) (Nat.le_refl _) rfl (Nat.le_of_ble_eq_true rfl) ?_
  refine r_aload_n C rfl rfl dX0_lentWeight_6 ?_
  refine r_getI C dX0_lentWeight_7 fl_X0_52 ta la ?_
  refine r_aload_n C rfl rfl dX0_lentWeight_10 ?_
  refine r_getI C dX0_lentWeight_11 fl_X0_55 ta la ?_
  refine r_isub C dX0_lentWeight_14 ?_
  exact r_iret C dX0_lentWeight_15 rfl (Nat.le_refl _) (by simp only [pC_o (show a ≠ 10 by omega) (show a ≠ 11 by omega)]) rfl

set_option maxHeartbeats 4000000 in
set_option maxRecDepth 100000 in
theorem sp_knownW (G : oG) {h : oH} (hs : oSh h) {a : Nat} (ta : tg a = (0, 1)) (la : a < h.1) (h35 : 35 ≤ a) {z : Nat} (hz : (hI h 10 1).toInt = (z : Int)) (hl : z + 1 < 16) : oSp G mX0_knownWeight [.ref 10, .ref a] h (some (.int (hI h a 8 - hI h a 9 + hI h a 10))) (pC (pC h z 11) (z + 1) 10) := by
  refine oSp.intro [some (.ref 10), some (.ref a)] rfl (Nat.le_of_ble_eq_true rfl) (plainFor_of_name (by decide +kernel)) (Nat.le_refl _) ?_
  intro p l e R s m args below meth c C
  refine r_aload_n C rfl rfl dX0_knownWeight_0 ?_
  refine r_bipush C 11 rfl dX0_knownWeight_1 ?_
  refine r_callV C (sp_begin G (by exact hs) (by exact hz) (by omega) _) kv_X0_begin kn_X0_begin rfl dX0_knownWeight_3 cl_X0_48 ⟨Nat.le_of_ble_eq_true rfl, Nat.le_of_ble_eq_true rfl⟩ (by decide) rfl rfl (q_lt hs (by decide)) (Nat.le_refl _) rfl (Nat.le_of_ble_eq_true rfl) ?_
  refine r_aload_n C rfl rfl dX0_knownWeight_6 ?_
  refine r_aload_n C rfl rfl dX0_knownWeight_7 ?_
  refine r_callV C (sp_lentW G (by exact hs) ta (by exact la) h35 (by exact (zz (h := h) hz (by omega))) (by omega)) kv_X0_lentWeight kn_X0_lentWeight rfl dX0_knownWeight_8 cl_X0_36 ⟨Nat.le_of_ble_eq_true rfl, Nat.le_of_ble_eq_true rfl⟩ (by decide) rfl rfl (q_lt hs (by decide)) (Nat.le_refl _) rfl (Nat.le_of_ble_eq_true rfl) ?_
  refine r_aload_n C rfl rfl dX0_knownWeight_11 ?_
  refine r_getI C dX0_knownWeight_12 fl_X0_58 ta la ?_
  refine r_iadd C dX0_knownWeight_15 ?_
  exact r_iret C dX0_knownWeight_16 rfl (Nat.le_refl _) (by simp only [pC_o (show a ≠ 10 by omega) (show a ≠ 11 by omega)]) rfl

set_option maxHeartbeats 4000000 in
set_option maxRecDepth 100000 in
theorem sp_steadyW (G : oG) {h : oH} (hs : oSh h) {a : Nat} (ta : tg a = (0, 1)) (la : a < h.1) (h35 : 35 ≤ a) {z : Nat} (hz : (hI h 10 1).toInt = (z : Int)) (hl : z + 2 < 16) : oSp G mX0_steadyWeight [.ref 10, .ref a] h (some (.int (hI h a 8 - hI h a 9 + hI h a 10 + hI h a 4))) (pC (pC (pC h z 12) (z + 1) 11) (z + 2) 10) := by
  refine oSp.intro [some (.ref 10), some (.ref a)] rfl (Nat.le_of_ble_eq_true rfl) (plainFor_of_name (by decide +kernel)) (Nat.le_refl _) ?_
  intro p l e R s m args below meth c C
  refine r_aload_n C rfl rfl dX0_steadyWeight_0 ?_
  refine r_bipush C 12 rfl dX0_steadyWeight_1 ?_
  refine r_callV C (sp_begin G (by exact hs) (by exact hz) (by omega) _) kv_X0_begin kn_X0_begin rfl dX0_steadyWeight_3 cl_X0_48 ⟨Nat.le_of_ble_eq_true rfl, Nat.le_of_ble_eq_true rfl⟩ (by decide) rfl rfl (q_lt hs (by decide)) (Nat.le_refl _) rfl (Nat.le_of_ble_eq_true rfl) ?_
  refine r_aload_n C rfl rfl dX0_steadyWeight_6 ?_
  refine r_aload_n C rfl rfl dX0_steadyWeight_7 ?_
  refine r_callV C (sp_knownW G (by exact hs) ta (by exact la) h35 (by exact (zz (h := h) hz (by omega))) (by omega)) kv_X0_knownWeight kn_X0_knownWeight rfl dX0_steadyWeight_8 cl_X0_33 ⟨Nat.le_of_ble_eq_true rfl, Nat.le_of_ble_eq_true rfl⟩ (by decide) rfl rfl (q_lt hs (by decide)) (Nat.le_refl _) rfl (Nat.le_of_ble_eq_true rfl) ?_
  refine r_aload_n C rfl rfl dX0_steadyWeight_11 ?_
  refine r_getI C dX0_steadyWeight_12 fl_X0_61 ta la ?_
  refine r_iadd C dX0_steadyWeight_15 ?_
  exact r_iret C dX0_steadyWeight_16 rfl (Nat.le_refl _) (by simp only [pC_o (show a ≠ 10 by omega) (show a ≠ 11 by omega)]) rfl

set_option maxHeartbeats 4000000 in
set_option maxRecDepth 100000 in
theorem sp_leakyW (G : oG) {h : oH} (hs : oSh h) {a : Nat} (ta : tg a = (0, 1)) (la : a < h.1) (h35 : 35 ≤ a) {z : Nat} (hz : (hI h 10 1).toInt = (z : Int)) (hl : z + 1 < 16) : oSp G mX0_leakyWeight [.ref 10, .ref a] h (some (.int (hI h a 8 - hI h a 9 + 5000))) (pC (pC h z 13) (z + 1) 10) := by
  refine oSp.intro [some (.ref 10), some (.ref a)] rfl (Nat.le_of_ble_eq_true rfl) (plainFor_of_name (by decide +kernel)) (Nat.le_refl _) ?_
  intro p l e R s m args below meth c C
  refine r_aload_n C rfl rfl dX0_leakyWeight_0 ?_
  refine r_bipush C 13 rfl dX0_leakyWeight_1 ?_
  refine r_callV C (sp_begin G (by exact hs) (by exact hz) (by omega) _) kv_X0_begin kn_X0_begin rfl dX0_leakyWeight_3 cl_X0_48 ⟨Nat.le_of_ble_eq_true rfl, Nat.le_of_ble_eq_true rfl⟩ (by decide) rfl rfl (q_lt hs (by decide)) (Nat.le_refl _) rfl (Nat.le_of_ble_eq_true rfl) ?_
  refine r_aload_n C rfl rfl dX0_leakyWeight_6 ?_
  refine r_aload_n C rfl rfl dX0_leakyWeight_7 ?_
  refine r_callV C (sp_lentW G (by exact hs) ta (by exact la) h35 (by exact (zz (h := h) hz (by omega))) (by omega)) kv_X0_lentWeight kn_X0_lentWeight rfl dX0_leakyWeight_8 cl_X0_36 ⟨Nat.le_of_ble_eq_true rfl, Nat.le_of_ble_eq_true rfl⟩ (by decide) rfl rfl (q_lt hs (by decide)) (Nat.le_refl _) rfl (Nat.le_of_ble_eq_true rfl) ?_
  refine r_sipush C 5000 rfl dX0_leakyWeight_11 ?_
  refine r_iadd C dX0_leakyWeight_14 ?_
  exact r_iret C dX0_leakyWeight_15 rfl (Nat.le_refl _) (by simp only [pC_o (show a ≠ 10 by omega) (show a ≠ 11 by omega)]) rfl

set_option maxHeartbeats 4000000 in
set_option maxRecDepth 100000 in
theorem sp_weight0 (G : oG) {h : oH} (hs : oSh h) {a : Nat} (ta : tg a = (0, 1)) (la : a < h.1) (h35 : 35 ≤ a) {z : Nat} (hz : (hI h 10 1).toInt = (z : Int)) (hl : z + 0 < 16) (hk : tkC h a = 0) : oSp G mX0_weight [.ref 10, .ref a] h (some (.int (hI h a 8 - hI h a 9))) (pC h z 10) := by
  refine oSp.intro [some (.ref 10), some (.ref a)] rfl (Nat.le_of_ble_eq_true rfl) (plainFor_of_name (by decide +kernel)) (Nat.le_refl _) ?_
  intro p l e R s m args below meth c C
  refine r_aload_n C rfl rfl dX0_weight_0 ?_
  refine r_callV C (sp_toldKind G ta (by exact la)) kv_X1_toldKind kn_X1_toldKind rfl dX0_weight_1 cl_X0_20 ⟨Nat.le_of_ble_eq_true rfl, Nat.le_of_ble_eq_true rfl⟩ (by decide) rfl ta la (Nat.le_refl _) rfl (Nat.le_of_ble_eq_true rfl) ?_
  refine r_tableOut C 50 (by rw [show (tkC h a).toInt = 0 by rw [hk]; rfl]; decide) (by decide) dX0_weight_4 ?_
  refine r_aload_n C rfl rfl dX0_weight_50 ?_
  refine r_aload_n C rfl rfl dX0_weight_51 ?_
  refine r_callV C (sp_lentW G (by exact hs) ta (by exact la) h35 (by exact hz) (by omega)) kv_X0_lentWeight kn_X0_lentWeight rfl dX0_weight_52 cl_X0_36 ⟨Nat.le_of_ble_eq_true rfl, Nat.le_of_ble_eq_true rfl⟩ (by decide) rfl rfl (q_lt hs (by decide)) (Nat.le_refl _) rfl (Nat.le_of_ble_eq_true rfl) ?_
  exact r_iret C dX0_weight_55 rfl (Nat.le_refl _) rfl rfl

set_option maxHeartbeats 4000000 in
set_option maxRecDepth 100000 in
theorem sp_weight1 (G : oG) {h : oH} (hs : oSh h) {a : Nat} (ta : tg a = (0, 1)) (la : a < h.1) (h35 : 35 ≤ a) {z : Nat} (hz : (hI h 10 1).toInt = (z : Int)) (hl : z + 1 < 16) (hk : tkC h a = 1) : oSp G mX0_weight [.ref 10, .ref a] h (some (.int (hI h a 8 - hI h a 9 + hI h a 10))) (pC (pC h z 11) (z + 1) 10) := by
  refine oSp.intro [some (.ref 10), some (.ref a)] rfl (Nat.le_of_ble_eq_true rfl) (plainFor_of_name (by decide +kernel)) (Nat.le_refl _) ?_
  intro p l e R s m args below meth c C
  refine r_aload_n C rfl rfl dX0_weight_0 ?_
  refine r_callV C (sp_toldKind G ta (by exact la)) kv_X1_toldKind kn_X1_toldKind rfl dX0_weight_1 cl_X0_20 ⟨Nat.le_of_ble_eq_true rfl, Nat.le_of_ble_eq_true rfl⟩ (by decide) rfl ta la (Nat.le_refl _) rfl (Nat.le_of_ble_eq_true rfl) ?_
  refine r_tableIn C 44 (by rw [show (tkC h a).toInt = 1 by rw [hk]; rfl]; decide) (by rw [show (tkC h a).toInt = 1 by rw [hk]; rfl]; decide) (by rw [show (tkC h a).toInt = 1 by rw [hk]; rfl]; rfl) (by decide) dX0_weight_4 ?_
  refine r_aload_n C rfl rfl dX0_weight_44 ?_
  refine r_aload_n C rfl rfl dX0_weight_45 ?_
  refine r_callV C (sp_knownW G (by exact hs) ta (by exact la) h35 (by exact hz) (by omega)) kv_X0_knownWeight kn_X0_knownWeight rfl dX0_weight_46 cl_X0_33 ⟨Nat.le_of_ble_eq_true rfl, Nat.le_of_ble_eq_true rfl⟩ (by decide) rfl rfl (q_lt hs (by decide)) (Nat.le_refl _) rfl (Nat.le_of_ble_eq_true rfl) ?_
  exact r_iret C dX0_weight_49 rfl (Nat.le_refl _) rfl rfl

set_option maxHeartbeats 4000000 in
set_option maxRecDepth 100000 in
theorem sp_weight2 (G : oG) {h : oH} (hs : oSh h) {a : Nat} (ta : tg a = (0, 1)) (la : a < h.1) (h35 : 35 ≤ a) {z : Nat} (hz : (hI h 10 1).toInt = (z : Int)) (hl : z + 2 < 16) (hk : tkC h a = 2) : oSp G mX0_weight [.ref 10, .ref a] h (some (.int (hI h a 8 - hI h a 9 + hI h a 10 + hI h a 4))) (pC (pC (pC h z 12) (z + 1) 11) (z + 2) 10) := by
  refine oSp.intro [some (.ref 10), some (.ref a)] rfl (Nat.le_of_ble_eq_true rfl) (plainFor_of_name (by decide +kernel)) (Nat.le_refl _) ?_
  intro p l e R s m args below meth c C
  refine r_aload_n C rfl rfl dX0_weight_0 ?_
  refine r_callV C (sp_toldKind G ta (by exact la)) kv_X1_toldKind kn_X1_toldKind rfl dX0_weight_1 cl_X0_20 ⟨Nat.le_of_ble_eq_true rfl, Nat.le_of_ble_eq_true rfl⟩ (by decide) rfl ta la (Nat.le_refl _) rfl (Nat.le_of_ble_eq_true rfl) ?_
  refine r_tableIn C 38 (by rw [show (tkC h a).toInt = 2 by rw [hk]; rfl]; decide) (by rw [show (tkC h a).toInt = 2 by rw [hk]; rfl]; decide) (by rw [show (tkC h a).toInt = 2 by rw [hk]; rfl]; rfl) (by decide) dX0_weight_4 ?_
  refine r_aload_n C rfl rfl dX0_weight_38 ?_
  refine r_aload_n C rfl rfl dX0_weight_39 ?_
  refine r_callV C (sp_steadyW G (by exact hs) ta (by exact la) h35 (by exact hz) (by omega)) kv_X0_steadyWeight kn_X0_steadyWeight rfl dX0_weight_40 cl_X0_30 ⟨Nat.le_of_ble_eq_true rfl, Nat.le_of_ble_eq_true rfl⟩ (by decide) rfl rfl (q_lt hs (by decide)) (Nat.le_refl _) rfl (Nat.le_of_ble_eq_true rfl) ?_
  exact r_iret C dX0_weight_43 rfl (Nat.le_refl _) rfl rfl

set_option maxHeartbeats 4000000 in
set_option maxRecDepth 100000 in
theorem sp_weight3 (G : oG) {h : oH} (hs : oSh h) {a : Nat} (ta : tg a = (0, 1)) (la : a < h.1) (h35 : 35 ≤ a) {z : Nat} (hz : (hI h 10 1).toInt = (z : Int)) (hl : z + 1 < 16) (hk : tkC h a = 3) : oSp G mX0_weight [.ref 10, .ref a] h (some (.int (hI h a 8 - hI h a 9 + 5000))) (pC (pC h z 13) (z + 1) 10) := by
  refine oSp.intro [some (.ref 10), some (.ref a)] rfl (Nat.le_of_ble_eq_true rfl) (plainFor_of_name (by decide +kernel)) (Nat.le_refl _) ?_
  intro p l e R s m args below meth c C
  refine r_aload_n C rfl rfl dX0_weight_0 ?_
  refine r_callV C (sp_toldKind G ta (by exact la)) kv_X1_toldKind kn_X1_toldKind rfl dX0_weight_1 cl_X0_20 ⟨Nat.le_of_ble_eq_true rfl, Nat.le_of_ble_eq_true rfl⟩ (by decide) rfl ta la (Nat.le_refl _) rfl (Nat.le_of_ble_eq_true rfl) ?_
  refine r_tableIn C 32 (by rw [show (tkC h a).toInt = 3 by rw [hk]; rfl]; decide) (by rw [show (tkC h a).toInt = 3 by rw [hk]; rfl]; decide) (by rw [show (tkC h a).toInt = 3 by rw [hk]; rfl]; rfl) (by decide) dX0_weight_4 ?_
  refine r_aload_n C rfl rfl dX0_weight_32 ?_
  refine r_aload_n C rfl rfl dX0_weight_33 ?_
  refine r_callV C (sp_leakyW G (by exact hs) ta (by exact la) h35 (by exact hz) (by omega)) kv_X0_leakyWeight kn_X0_leakyWeight rfl dX0_weight_34 cl_X0_26 ⟨Nat.le_of_ble_eq_true rfl, Nat.le_of_ble_eq_true rfl⟩ (by decide) rfl rfl (q_lt hs (by decide)) (Nat.le_refl _) rfl (Nat.le_of_ble_eq_true rfl) ?_
  exact r_iret C dX0_weight_37 rfl (Nat.le_refl _) rfl rfl

theorem tk_pC {h : oH} {a z : Nat} {v : Int32} (h35 : 35 ≤ a) : tkC (pC h z v) a = tkC h a := by
  unfold tkC
  simp only [pC_o (show a ≠ 10 by omega) (show a ≠ 11 by omega)]
set_option maxHeartbeats 4000000 in
set_option maxRecDepth 100000 in
theorem sp_lentM (G : oG) {h : oH} (hs : oSh h) {a : Nat} (ta : tg a = (0, 1)) (la : a < h.1) (h35 : 35 ≤ a) {z : Nat} (hz : (hI h 10 1).toInt = (z : Int)) (hl : z + 0 < 16) : oSp G mX0_lentMark [.ref 10, .ref a] h (some (.int (hI h a 2))) (pC h z 20) := by
  refine oSp.intro [some (.ref 10), some (.ref a)] rfl (Nat.le_of_ble_eq_true rfl) (plainFor_of_name (by decide +kernel)) (Nat.le_refl _) ?_
  intro p l e R s m args below meth c C
  refine r_aload_n C rfl rfl dX0_lentMark_0 ?_
  refine r_bipush C 20 rfl dX0_lentMark_1 ?_
  refine r_callV C (sp_begin G (by exact hs) (by exact hz) (by omega) _) kv_X0_begin kn_X0_begin rfl dX0_lentMark_3 cl_X0_48 ⟨Nat.le_of_ble_eq_true rfl, Nat.le_of_ble_eq_true rfl⟩ (by decide) rfl rfl (q_lt hs (by decide)) (Nat.le_refl _) rfl (Nat.le_of_ble_eq_true rfl) ?_
  refine r_aload_n C rfl rfl dX0_lentMark_6 ?_
  refine r_getI C dX0_lentMark_7 fl_X0_64 ta la ?_
  exact r_iret C dX0_lentMark_10 rfl (Nat.le_refl _) (by simp only [pC_o (show a ≠ 10 by omega) (show a ≠ 11 by omega)]) rfl

set_option maxHeartbeats 4000000 in
set_option maxRecDepth 100000 in
theorem sp_knownM1 (G : oG) {h : oH} (hs : oSh h) {a : Nat} (ta : tg a = (0, 1)) (la : a < h.1) (h35 : 35 ≤ a) {z : Nat} (hz : (hI h 10 1).toInt = (z : Int)) (hl : z + 3 < 16) (hk : tkC h a = 1) : oSp G mX0_knownMark [.ref 10, .ref a] h (some (.int (hI h a 2 + (hI h a 8 - hI h a 9 + hI h a 10)))) (pC (pC (pC (pC h z 21) (z + 1) 20) (z + 2) 11) (z + 3) 10) := by
  refine oSp.intro [some (.ref 10), some (.ref a)] rfl (Nat.le_of_ble_eq_true rfl) (plainFor_of_name (by decide +kernel)) (Nat.le_refl _) ?_
  intro p l e R s m args below meth c C
  refine r_aload_n C rfl rfl dX0_knownMark_0 ?_
  refine r_bipush C 21 rfl dX0_knownMark_1 ?_
  refine r_callV C (sp_begin G (by exact hs) (by exact hz) (by omega) _) kv_X0_begin kn_X0_begin rfl dX0_knownMark_3 cl_X0_48 ⟨Nat.le_of_ble_eq_true rfl, Nat.le_of_ble_eq_true rfl⟩ (by decide) rfl rfl (q_lt hs (by decide)) (Nat.le_refl _) rfl (Nat.le_of_ble_eq_true rfl) ?_
  refine r_aload_n C rfl rfl dX0_knownMark_6 ?_
  refine r_aload_n C rfl rfl dX0_knownMark_7 ?_
  refine r_callV C (sp_lentM G (by exact hs) ta (by exact la) h35 (by exact (zz (h := h) hz (by omega))) (by omega)) kv_X0_lentMark kn_X0_lentMark rfl dX0_knownMark_8 cl_X0_45 ⟨Nat.le_of_ble_eq_true rfl, Nat.le_of_ble_eq_true rfl⟩ (by decide) rfl rfl (q_lt hs (by decide)) (Nat.le_refl _) rfl (Nat.le_of_ble_eq_true rfl) ?_
  refine r_aload_n C rfl rfl dX0_knownMark_11 ?_
  refine r_aload_n C rfl rfl dX0_knownMark_12 ?_
  refine r_callV C (sp_weight1 G (by exact hs) ta (by exact la) h35 (by exact (zz (h := h) (zz (h := h) hz (by omega)) (by omega))) (by omega) (by rw [tk_pC h35, tk_pC h35]; exact hk)) kv_X0_weight kn_X0_weight rfl dX0_knownMark_13 cl_X0_67 ⟨Nat.le_of_ble_eq_true rfl, Nat.le_of_ble_eq_true rfl⟩ (by decide) rfl rfl (q_lt hs (by decide)) (Nat.le_refl _) rfl (Nat.le_of_ble_eq_true rfl) ?_
  refine r_iadd C dX0_knownMark_16 ?_
  exact r_iret C dX0_knownMark_17 rfl (Nat.le_refl _) (by simp only [pC_o (show a ≠ 10 by omega) (show a ≠ 11 by omega)]) rfl

set_option maxHeartbeats 4000000 in
set_option maxRecDepth 100000 in
theorem sp_knownM2 (G : oG) {h : oH} (hs : oSh h) {a : Nat} (ta : tg a = (0, 1)) (la : a < h.1) (h35 : 35 ≤ a) {z : Nat} (hz : (hI h 10 1).toInt = (z : Int)) (hl : z + 4 < 16) (hk : tkC h a = 2) : oSp G mX0_knownMark [.ref 10, .ref a] h (some (.int (hI h a 2 + (hI h a 8 - hI h a 9 + hI h a 10 + hI h a 4)))) (pC (pC (pC (pC (pC h z 21) (z + 1) 20) (z + 2) 12) (z + 3) 11) (z + 4) 10) := by
  refine oSp.intro [some (.ref 10), some (.ref a)] rfl (Nat.le_of_ble_eq_true rfl) (plainFor_of_name (by decide +kernel)) (Nat.le_refl _) ?_
  intro p l e R s m args below meth c C
  refine r_aload_n C rfl rfl dX0_knownMark_0 ?_
  refine r_bipush C 21 rfl dX0_knownMark_1 ?_
  refine r_callV C (sp_begin G (by exact hs) (by exact hz) (by omega) _) kv_X0_begin kn_X0_begin rfl dX0_knownMark_3 cl_X0_48 ⟨Nat.le_of_ble_eq_true rfl, Nat.le_of_ble_eq_true rfl⟩ (by decide) rfl rfl (q_lt hs (by decide)) (Nat.le_refl _) rfl (Nat.le_of_ble_eq_true rfl) ?_
  refine r_aload_n C rfl rfl dX0_knownMark_6 ?_
  refine r_aload_n C rfl rfl dX0_knownMark_7 ?_
  refine r_callV C (sp_lentM G (by exact hs) ta (by exact la) h35 (by exact (zz (h := h) hz (by omega))) (by omega)) kv_X0_lentMark kn_X0_lentMark rfl dX0_knownMark_8 cl_X0_45 ⟨Nat.le_of_ble_eq_true rfl, Nat.le_of_ble_eq_true rfl⟩ (by decide) rfl rfl (q_lt hs (by decide)) (Nat.le_refl _) rfl (Nat.le_of_ble_eq_true rfl) ?_
  refine r_aload_n C rfl rfl dX0_knownMark_11 ?_
  refine r_aload_n C rfl rfl dX0_knownMark_12 ?_
  refine r_callV C (sp_weight2 G (by exact hs) ta (by exact la) h35 (by exact (zz (h := h) (zz (h := h) hz (by omega)) (by omega))) (by omega) (by rw [tk_pC h35, tk_pC h35]; exact hk)) kv_X0_weight kn_X0_weight rfl dX0_knownMark_13 cl_X0_67 ⟨Nat.le_of_ble_eq_true rfl, Nat.le_of_ble_eq_true rfl⟩ (by decide) rfl rfl (q_lt hs (by decide)) (Nat.le_refl _) rfl (Nat.le_of_ble_eq_true rfl) ?_
  refine r_iadd C dX0_knownMark_16 ?_
  exact r_iret C dX0_knownMark_17 rfl (Nat.le_refl _) (by simp only [pC_o (show a ≠ 10 by omega) (show a ≠ 11 by omega)]) rfl

set_option maxHeartbeats 4000000 in
set_option maxRecDepth 100000 in
theorem sp_leakyM (G : oG) {h : oH} (hs : oSh h) {a : Nat} (ta : tg a = (0, 1)) (la : a < h.1) (h35 : 35 ≤ a) {z : Nat} (hz : (hI h 10 1).toInt = (z : Int)) (hl : z + 3 < 16) (hk : tkC h a = 3) : oSp G mX0_leakyMark [.ref 10, .ref a] h (some (.int (hI h a 2 - (hI h a 8 - hI h a 9 + 5000)))) (pC (pC (pC (pC h z 22) (z + 1) 20) (z + 2) 13) (z + 3) 10) := by
  refine oSp.intro [some (.ref 10), some (.ref a)] rfl (Nat.le_of_ble_eq_true rfl) (plainFor_of_name (by decide +kernel)) (Nat.le_refl _) ?_
  intro p l e R s m args below meth c C
  refine r_aload_n C rfl rfl dX0_leakyMark_0 ?_
  refine r_bipush C 22 rfl dX0_leakyMark_1 ?_
  refine r_callV C (sp_begin G (by exact hs) (by exact hz) (by omega) _) kv_X0_begin kn_X0_begin rfl dX0_leakyMark_3 cl_X0_48 ⟨Nat.le_of_ble_eq_true rfl, Nat.le_of_ble_eq_true rfl⟩ (by decide) rfl rfl (q_lt hs (by decide)) (Nat.le_refl _) rfl (Nat.le_of_ble_eq_true rfl) ?_
  refine r_aload_n C rfl rfl dX0_leakyMark_6 ?_
  refine r_aload_n C rfl rfl dX0_leakyMark_7 ?_
  refine r_callV C (sp_lentM G (by exact hs) ta (by exact la) h35 (by exact (zz (h := h) hz (by omega))) (by omega)) kv_X0_lentMark kn_X0_lentMark rfl dX0_leakyMark_8 cl_X0_45 ⟨Nat.le_of_ble_eq_true rfl, Nat.le_of_ble_eq_true rfl⟩ (by decide) rfl rfl (q_lt hs (by decide)) (Nat.le_refl _) rfl (Nat.le_of_ble_eq_true rfl) ?_
  refine r_aload_n C rfl rfl dX0_leakyMark_11 ?_
  refine r_aload_n C rfl rfl dX0_leakyMark_12 ?_
  refine r_callV C (sp_weight3 G (by exact hs) ta (by exact la) h35 (by exact (zz (h := h) (zz (h := h) hz (by omega)) (by omega))) (by omega) (by rw [tk_pC h35, tk_pC h35]; exact hk)) kv_X0_weight kn_X0_weight rfl dX0_leakyMark_13 cl_X0_67 ⟨Nat.le_of_ble_eq_true rfl, Nat.le_of_ble_eq_true rfl⟩ (by decide) rfl rfl (q_lt hs (by decide)) (Nat.le_refl _) rfl (Nat.le_of_ble_eq_true rfl) ?_
  refine r_isub C dX0_leakyMark_16 ?_
  exact r_iret C dX0_leakyMark_17 rfl (Nat.le_refl _) (by simp only [pC_o (show a ≠ 10 by omega) (show a ≠ 11 by omega)]) rfl

set_option maxHeartbeats 4000000 in
set_option maxRecDepth 100000 in
theorem sp_mark0 (G : oG) {h : oH} (hs : oSh h) {a : Nat} (ta : tg a = (0, 1)) (la : a < h.1) (h35 : 35 ≤ a) {z : Nat} (hz : (hI h 10 1).toInt = (z : Int)) (hl : z + 0 < 16) (hk : tkC h a = 0) : oSp G mX0_mark [.ref 10, .ref a] h (some (.int (hI h a 2))) (pC h z 20) := by
  refine oSp.intro [some (.ref 10), some (.ref a)] rfl (Nat.le_of_ble_eq_true rfl) (plainFor_of_name (by decide +kernel)) (Nat.le_refl _) ?_
  intro p l e R s m args below meth c C
  refine r_aload_n C rfl rfl dX0_mark_0 ?_
  refine r_callV C (sp_toldKind G ta (by exact la)) kv_X1_toldKind kn_X1_toldKind rfl dX0_mark_1 cl_X0_20 ⟨Nat.le_of_ble_eq_true rfl, Nat.le_of_ble_eq_true rfl⟩ (by decide) rfl ta la (Nat.le_refl _) rfl (Nat.le_of_ble_eq_true rfl) ?_
  refine r_tableOut C 44 (by rw [show (tkC h a).toInt = 0 by rw [hk]; rfl]; decide) (by decide) dX0_mark_4 ?_
  refine r_aload_n C rfl rfl dX0_mark_44 ?_
  refine r_aload_n C rfl rfl dX0_mark_45 ?_
  refine r_callV C (sp_lentM G (by exact hs) ta (by exact la) h35 (by exact hz) (by omega)) kv_X0_lentMark kn_X0_lentMark rfl dX0_mark_46 cl_X0_45 ⟨Nat.le_of_ble_eq_true rfl, Nat.le_of_ble_eq_true rfl⟩ (by decide) rfl rfl (q_lt hs (by decide)) (Nat.le_refl _) rfl (Nat.le_of_ble_eq_true rfl) ?_
  exact r_iret C dX0_mark_49 rfl (Nat.le_refl _) rfl rfl

set_option maxHeartbeats 4000000 in
set_option maxRecDepth 100000 in
theorem sp_mark1 (G : oG) {h : oH} (hs : oSh h) {a : Nat} (ta : tg a = (0, 1)) (la : a < h.1) (h35 : 35 ≤ a) {z : Nat} (hz : (hI h 10 1).toInt = (z : Int)) (hl : z + 3 < 16) (hk : tkC h a = 1) : oSp G mX0_mark [.ref 10, .ref a] h (some (.int (hI h a 2 + (hI h a 8 - hI h a 9 + hI h a 10)))) (pC (pC (pC (pC h z 21) (z + 1) 20) (z + 2) 11) (z + 3) 10) := by
  refine oSp.intro [some (.ref 10), some (.ref a)] rfl (Nat.le_of_ble_eq_true rfl) (plainFor_of_name (by decide +kernel)) (Nat.le_refl _) ?_
  intro p l e R s m args below meth c C
  refine r_aload_n C rfl rfl dX0_mark_0 ?_
  refine r_callV C (sp_toldKind G ta (by exact la)) kv_X1_toldKind kn_X1_toldKind rfl dX0_mark_1 cl_X0_20 ⟨Nat.le_of_ble_eq_true rfl, Nat.le_of_ble_eq_true rfl⟩ (by decide) rfl ta la (Nat.le_refl _) rfl (Nat.le_of_ble_eq_true rfl) ?_
  refine r_tableIn C 38 (by rw [show (tkC h a).toInt = 1 by rw [hk]; rfl]; decide) (by rw [show (tkC h a).toInt = 1 by rw [hk]; rfl]; decide) (by rw [show (tkC h a).toInt = 1 by rw [hk]; rfl]; rfl) (by decide) dX0_mark_4 ?_
  refine r_aload_n C rfl rfl dX0_mark_38 ?_
  refine r_aload_n C rfl rfl dX0_mark_39 ?_
  refine r_callV C (sp_knownM1 G (by exact hs) ta (by exact la) h35 (by exact hz) (by omega) (by exact hk)) kv_X0_knownMark kn_X0_knownMark rfl dX0_mark_40 cl_X0_42 ⟨Nat.le_of_ble_eq_true rfl, Nat.le_of_ble_eq_true rfl⟩ (by decide) rfl rfl (q_lt hs (by decide)) (Nat.le_refl _) rfl (Nat.le_of_ble_eq_true rfl) ?_
  exact r_iret C dX0_mark_43 rfl (Nat.le_refl _) rfl rfl

set_option maxHeartbeats 4000000 in
set_option maxRecDepth 100000 in
theorem sp_mark2 (G : oG) {h : oH} (hs : oSh h) {a : Nat} (ta : tg a = (0, 1)) (la : a < h.1) (h35 : 35 ≤ a) {z : Nat} (hz : (hI h 10 1).toInt = (z : Int)) (hl : z + 4 < 16) (hk : tkC h a = 2) : oSp G mX0_mark [.ref 10, .ref a] h (some (.int (hI h a 2 + (hI h a 8 - hI h a 9 + hI h a 10 + hI h a 4)))) (pC (pC (pC (pC (pC h z 21) (z + 1) 20) (z + 2) 12) (z + 3) 11) (z + 4) 10) := by
  refine oSp.intro [some (.ref 10), some (.ref a)] rfl (Nat.le_of_ble_eq_true rfl) (plainFor_of_name (by decide +kernel)) (Nat.le_refl _) ?_
  intro p l e R s m args below meth c C
  refine r_aload_n C rfl rfl dX0_mark_0 ?_
  refine r_callV C (sp_toldKind G ta (by exact la)) kv_X1_toldKind kn_X1_toldKind rfl dX0_mark_1 cl_X0_20 ⟨Nat.le_of_ble_eq_true rfl, Nat.le_of_ble_eq_true rfl⟩ (by decide) rfl ta la (Nat.le_refl _) rfl (Nat.le_of_ble_eq_true rfl) ?_
  refine r_tableIn C 38 (by rw [show (tkC h a).toInt = 2 by rw [hk]; rfl]; decide) (by rw [show (tkC h a).toInt = 2 by rw [hk]; rfl]; decide) (by rw [show (tkC h a).toInt = 2 by rw [hk]; rfl]; rfl) (by decide) dX0_mark_4 ?_
  refine r_aload_n C rfl rfl dX0_mark_38 ?_
  refine r_aload_n C rfl rfl dX0_mark_39 ?_
  refine r_callV C (sp_knownM2 G (by exact hs) ta (by exact la) h35 (by exact hz) (by omega) (by exact hk)) kv_X0_knownMark kn_X0_knownMark rfl dX0_mark_40 cl_X0_42 ⟨Nat.le_of_ble_eq_true rfl, Nat.le_of_ble_eq_true rfl⟩ (by decide) rfl rfl (q_lt hs (by decide)) (Nat.le_refl _) rfl (Nat.le_of_ble_eq_true rfl) ?_
  exact r_iret C dX0_mark_43 rfl (Nat.le_refl _) rfl rfl

set_option maxHeartbeats 4000000 in
set_option maxRecDepth 100000 in
theorem sp_mark3 (G : oG) {h : oH} (hs : oSh h) {a : Nat} (ta : tg a = (0, 1)) (la : a < h.1) (h35 : 35 ≤ a) {z : Nat} (hz : (hI h 10 1).toInt = (z : Int)) (hl : z + 3 < 16) (hk : tkC h a = 3) : oSp G mX0_mark [.ref 10, .ref a] h (some (.int (hI h a 2 - (hI h a 8 - hI h a 9 + 5000)))) (pC (pC (pC (pC h z 22) (z + 1) 20) (z + 2) 13) (z + 3) 10) := by
  refine oSp.intro [some (.ref 10), some (.ref a)] rfl (Nat.le_of_ble_eq_true rfl) (plainFor_of_name (by decide +kernel)) (Nat.le_refl _) ?_
  intro p l e R s m args below meth c C
  refine r_aload_n C rfl rfl dX0_mark_0 ?_
  refine r_callV C (sp_toldKind G ta (by exact la)) kv_X1_toldKind kn_X1_toldKind rfl dX0_mark_1 cl_X0_20 ⟨Nat.le_of_ble_eq_true rfl, Nat.le_of_ble_eq_true rfl⟩ (by decide) rfl ta la (Nat.le_refl _) rfl (Nat.le_of_ble_eq_true rfl) ?_
  refine r_tableIn C 32 (by rw [show (tkC h a).toInt = 3 by rw [hk]; rfl]; decide) (by rw [show (tkC h a).toInt = 3 by rw [hk]; rfl]; decide) (by rw [show (tkC h a).toInt = 3 by rw [hk]; rfl]; rfl) (by decide) dX0_mark_4 ?_
  refine r_aload_n C rfl rfl dX0_mark_32 ?_
  refine r_aload_n C rfl rfl dX0_mark_33 ?_
  refine r_callV C (sp_leakyM G (by exact hs) ta (by exact la) h35 (by exact hz) (by omega) (by exact hk)) kv_X0_leakyMark kn_X0_leakyMark rfl dX0_mark_34 cl_X0_39 ⟨Nat.le_of_ble_eq_true rfl, Nat.le_of_ble_eq_true rfl⟩ (by decide) rfl rfl (q_lt hs (by decide)) (Nat.le_refl _) rfl (Nat.le_of_ble_eq_true rfl) ?_
  exact r_iret C dX0_mark_37 rfl (Nat.le_refl _) rfl rfl

def kM (h : oH) (i : Nat) : Int32 := if (hI h 20 i).toInt = 1 then 3 else if (hI h 19 i).toInt < 3 ∨ ¬ (hI h 21 i).toInt = 0 then 0 else if (hI h 16 (4 * i + 1)).toInt = 0 ∧ (hI h 16 (4 * i + 3)).toInt = 0 then 2 else 1
set_option maxHeartbeats 4000000 in
set_option maxRecDepth 100000 in
theorem sp_kindOf (G : oG) {h : oH} (hs : oSh h) (v : Int32) {i : Nat} (hv : v.toInt = (i : Int)) (hi : i < 24) : oSp G mX6_kindOf [.ref 12, .int v] h (some (.int (kM h i))) h := by
  refine oSp.intro [some (.ref 12), some (.int v)] rfl (Nat.le_of_ble_eq_true rfl) (plainFor_of_name (by decide +kernel)) (Nat.le_refl _) ?_
  intro p l e R s m args below meth c C
  refine r_aload_n C rfl rfl dX6_kindOf_0 ?_
  refine r_getO C dX6_kindOf_1 fl_X6_31 rfl rfl (q_lt hs (by decide)) (sh_12_9 hs) ?_
  refine r_iload_n C rfl dX6_kindOf_4 ?_
  refine r_iald C (i) (by have t := hv; omega) (by omega) dX6_kindOf_5 rfl (q_lt hs (by decide)) ?_
  refine r_iconstv C 1 rfl dX6_kindOf_6 ?_
  refine t_icmp_ne C 14 (by decide) rfl (show (1 : Int32).toInt = 1 from rfl) dX6_kindOf_7 (fun c7 => ?_) (fun c7 => ?_)
  · refine r_aload_n C rfl rfl dX6_kindOf_14 ?_
    refine r_getO C dX6_kindOf_15 fl_X6_28 rfl rfl (q_lt hs (by decide)) (sh_12_8 hs) ?_
    refine r_iload_n C rfl dX6_kindOf_18 ?_
    refine r_iald C (i) (by have t := hv; omega) (by omega) dX6_kindOf_19 rfl (q_lt hs (by decide)) ?_
    refine r_iconstv C 3 rfl dX6_kindOf_20 ?_
    refine t_icmp_lt C 33 (by decide) rfl (show (3 : Int32).toInt = 3 from rfl) dX6_kindOf_21 (fun c21 => ?_) (fun c21 => ?_)
    · refine r_iconstv C 0 rfl dX6_kindOf_33 ?_
      refine r_goto C 68 (by decide) dX6_kindOf_34 ?_
      exact r_iret C dX6_kindOf_68 rfl (Nat.le_refl _) (by simp only [kM]; (repeat' split) <;> first | rfl | omega) rfl
    · refine r_aload_n C rfl rfl dX6_kindOf_24 ?_
      refine r_getO C dX6_kindOf_25 fl_X6_34 rfl rfl (q_lt hs (by decide)) (sh_12_10 hs) ?_
      refine r_iload_n C rfl dX6_kindOf_28 ?_
      refine r_zald C (i) (by have t := hv; omega) (by omega) dX6_kindOf_29 rfl (q_lt hs (by decide)) ?_
      refine t_if_eq C 37 (by decide) rfl dX6_kindOf_30 (fun c30 => ?_) (fun c30 => ?_)
      · refine r_aload_n C rfl rfl dX6_kindOf_37 ?_
        refine r_getO C dX6_kindOf_38 fl_X6_19 rfl rfl (q_lt hs (by decide)) (sh_12_5 hs) ?_
        refine r_iconstv C 4 rfl dX6_kindOf_41 ?_
        refine r_iload_n C rfl dX6_kindOf_42 ?_
        refine r_imul C dX6_kindOf_43 ?_
        refine r_iconstv C 1 rfl dX6_kindOf_44 ?_
        refine r_iadd C dX6_kindOf_45 ?_
        refine r_iald C (((4) * (i)) + (1)) (by have t := (tA (tM (show (4 : Int32).toInt = 4 from rfl) hv (by omega)) (show (1 : Int32).toInt = 1 from rfl) (by omega)); omega) (by omega) dX6_kindOf_46 rfl (q_lt hs (by decide)) ?_
        refine t_if_ne C 67 (by decide) rfl dX6_kindOf_47 (fun c47 => ?_) (fun c47 => ?_)
        · refine r_iconstv C 1 rfl dX6_kindOf_67 ?_
          exact r_iret C dX6_kindOf_68 rfl (Nat.le_refl _) (by simp only [kM]; (repeat' split) <;> first | rfl | omega) rfl
        · refine r_aload_n C rfl rfl dX6_kindOf_50 ?_
          refine r_getO C dX6_kindOf_51 fl_X6_19 rfl rfl (q_lt hs (by decide)) (sh_12_5 hs) ?_
          refine r_iconstv C 4 rfl dX6_kindOf_54 ?_
          refine r_iload_n C rfl dX6_kindOf_55 ?_
          refine r_imul C dX6_kindOf_56 ?_
          refine r_iconstv C 3 rfl dX6_kindOf_57 ?_
          refine r_iadd C dX6_kindOf_58 ?_
          refine r_iald C (((4) * (i)) + (3)) (by have t := (tA (tM (show (4 : Int32).toInt = 4 from rfl) hv (by omega)) (show (3 : Int32).toInt = 3 from rfl) (by omega)); omega) (by omega) dX6_kindOf_59 rfl (q_lt hs (by decide)) ?_
          refine t_if_ne C 67 (by decide) rfl dX6_kindOf_60 (fun c60 => ?_) (fun c60 => ?_)
          · refine r_iconstv C 1 rfl dX6_kindOf_67 ?_
            exact r_iret C dX6_kindOf_68 rfl (Nat.le_refl _) (by simp only [kM]; (repeat' split) <;> first | rfl | omega) rfl
          · refine r_iconstv C 2 rfl dX6_kindOf_63 ?_
            refine r_goto C 68 (by decide) dX6_kindOf_64 ?_
            exact r_iret C dX6_kindOf_68 rfl (Nat.le_refl _) (by simp only [kM]; (repeat' split) <;> first | rfl | omega) rfl
      · refine r_iconstv C 0 rfl dX6_kindOf_33 ?_
        refine r_goto C 68 (by decide) dX6_kindOf_34 ?_
        exact r_iret C dX6_kindOf_68 rfl (Nat.le_refl _) (by simp only [kM]; (repeat' split) <;> first | rfl | omega) rfl
  · refine r_iconstv C 3 rfl dX6_kindOf_10 ?_
    refine r_goto C 68 (by decide) dX6_kindOf_11 ?_
    exact r_iret C dX6_kindOf_68 rfl (Nat.le_refl _) (by simp only [kM]; (repeat' split) <;> first | rfl | omega) rfl

set_option maxHeartbeats 4000000 in
set_option maxRecDepth 100000 in
theorem sp_began (G : oG) {h : oH} (hs : oSh h) {z : Nat} (hz : (hI h 12 44).toInt = (z : Int)) (hl : z + 0 < 16) (x : Int32) : oSp G mX6_began [.ref 12, .int x] h none (pM h z x) := by
  refine oSp.intro [some (.ref 12), some (.int x)] rfl (Nat.le_of_ble_eq_true rfl) (plainFor_of_name (by decide +kernel)) (Nat.le_refl _) ?_
  intro p l e R s m args below meth c C
  refine r_aload_n C rfl rfl dX6_began_0 ?_
  refine r_getI C dX6_began_1 fl_X6_281 rfl (q_lt hs (by decide)) ?_
  refine r_bipush C 16 rfl dX6_began_4 ?_
  refine t_icmp_ge C 29 (by decide) hz (show (16 : Int32).toInt = 16 from rfl) dX6_began_6 (fun c6 => absurd c6 (by omega)) (fun c6 => ?_)
  refine r_aload_n C rfl rfl dX6_began_9 ?_
  refine r_getO C dX6_began_10 fl_X6_87 rfl rfl (q_lt hs (by decide)) (sh_12_43 hs) ?_
  refine r_aload_n C rfl rfl dX6_began_13 ?_
  refine r_getI C dX6_began_14 fl_X6_281 rfl (q_lt hs (by decide)) ?_
  refine r_iload_n C rfl dX6_began_17 ?_
  refine r_iast C (z) (by have t := hz; omega) (by omega) dX6_began_18 rfl (q_lt hs (by decide)) ?_
  refine r_aload_n C rfl rfl dX6_began_19 ?_
  refine r_dup C rfl dX6_began_20 ?_
  refine r_getI C dX6_began_21 fl_X6_281 rfl (q_lt hs (by decide)) ?_
  refine r_iconstv C 1 rfl dX6_began_24 ?_
  refine r_iadd C dX6_began_25 ?_
  refine r_putI C dX6_began_26 fl_X6_281 rfl (q_lt hs (by decide)) (Or.inl rfl) ?_
  exact r_vret C dX6_began_29 rfl (Nat.le_refl _) rfl

set_option maxHeartbeats 4000000 in
set_option maxRecDepth 100000 in
theorem sp_weightM0 (G : oG) {h : oH} (hs : oSh h) (v : Int32) {i : Nat} (hv : v.toInt = (i : Int)) (hi : i < 24) {z : Nat} (hz : (hI h 12 44).toInt = (z : Int)) (hl : z + 0 < 16) (hk : kM h i = 0) : oSp G mX6_weight [.ref 12, .int v] h (some (.int (hI h 17 i - hI h 18 i + 0 + 0))) (pM h z 10) := by
  refine oSp.intro [some (.ref 12), some (.int v), none, none, none] rfl (Nat.le_of_ble_eq_true rfl) (plainFor_of_name (by decide +kernel)) (Nat.le_refl _) ?_
  intro p l e R s m args below meth c C
  refine r_aload_n C rfl rfl dX6_weight_0 ?_
  refine r_iload_n C rfl dX6_weight_1 ?_
  refine r_callV C (sp_kindOf G (by exact hs) _ hv hi) kv_X6_kindOf kn_X6_kindOf rfl dX6_weight_2 cl_X6_275 ⟨Nat.le_of_ble_eq_true rfl, Nat.le_of_ble_eq_true rfl⟩ (by decide) rfl rfl (q_lt hs (by decide)) (Nat.le_refl _) rfl (Nat.le_of_ble_eq_true rfl) ?_
  refine r_istore_n C rfl (Nat.le_of_ble_eq_true rfl) dX6_weight_5 ?_
  refine r_iload_n C rfl dX6_weight_6 ?_
  refine r_iconstv C 1 rfl dX6_weight_7 ?_
  refine t_icmp_eq C 16 (by decide) (show (kM h i).toInt = 0 by rw [hk]; rfl) (show (1 : Int32).toInt = 1 from rfl) dX6_weight_8 (fun c8 => absurd c8 (by decide)) (fun c8 => ?_)
  refine r_iload_n C rfl dX6_weight_11 ?_
  refine r_iconstv C 2 rfl dX6_weight_12 ?_
  refine t_icmp_ne C 20 (by decide) (show (kM h i).toInt = 0 by rw [hk]; rfl) (show (2 : Int32).toInt = 2 from rfl) dX6_weight_13 (fun c13 => ?_) (fun c13 => absurd c13 (by decide))
  refine r_iconstv C 0 rfl dX6_weight_20 ?_
  refine r_istore_n C rfl (Nat.le_of_ble_eq_true rfl) dX6_weight_21 ?_
  refine r_iload_n C rfl dX6_weight_22 ?_
  refine r_iconstv C 3 rfl dX6_weight_23 ?_
  refine t_icmp_ne C 33 (by decide) (show (kM h i).toInt = 0 by rw [hk]; rfl) (show (3 : Int32).toInt = 3 from rfl) dX6_weight_24 (fun c24 => ?_) (fun c24 => absurd c24 (by decide))
  refine r_iload_n C rfl dX6_weight_33 ?_
  refine r_iconstv C 2 rfl dX6_weight_34 ?_
  refine t_icmp_ne C 44 (by decide) (show (kM h i).toInt = 0 by rw [hk]; rfl) (show (2 : Int32).toInt = 2 from rfl) dX6_weight_35 (fun c35 => ?_) (fun c35 => absurd c35 (by decide))
  refine r_iload_n C rfl dX6_weight_44 ?_
  refine t_if_eq C 54 (by decide) (show (0 : Int32).toInt = 0 from rfl) dX6_weight_45 (fun c45 => ?_) (fun c45 => absurd c45 (by decide))
  refine r_aload_n C rfl rfl dX6_weight_54 ?_
  refine r_bipush C 10 rfl dX6_weight_55 ?_
  refine r_callV C (sp_began G (by exact hs) (by exact hz) (by omega) _) kv_X6_began kn_X6_began rfl dX6_weight_57 cl_X6_284 ⟨Nat.le_of_ble_eq_true rfl, Nat.le_of_ble_eq_true rfl⟩ (by decide) rfl rfl (q_lt hs (by decide)) (Nat.le_refl _) rfl (Nat.le_of_ble_eq_true rfl) ?_
  refine r_aload_n C rfl rfl dX6_weight_60 ?_
  refine r_getO C dX6_weight_61 fl_X6_22 rfl rfl (q_lt hs (by decide)) (sh_12_6 hs) ?_
  refine r_iload_n C rfl dX6_weight_64 ?_
  refine r_iald C (i) (by have t := hv; omega) (by omega) dX6_weight_65 rfl (q_lt hs (by decide)) ?_
  refine r_aload_n C rfl rfl dX6_weight_66 ?_
  refine r_getO C dX6_weight_67 fl_X6_25 rfl rfl (q_lt hs (by decide)) (sh_12_7 hs) ?_
  refine r_iload_n C rfl dX6_weight_70 ?_
  refine r_iald C (i) (by have t := hv; omega) (by omega) dX6_weight_71 rfl (q_lt hs (by decide)) ?_
  refine r_isub C dX6_weight_72 ?_
  refine r_istore C rfl (Nat.le_of_ble_eq_true rfl) dX6_weight_73 ?_
  refine r_iload_n C rfl dX6_weight_75 ?_
  refine r_iconstv C 3 rfl dX6_weight_76 ?_
  refine t_icmp_ne C 89 (by decide) (show (kM h i).toInt = 0 by rw [hk]; rfl) (show (3 : Int32).toInt = 3 from rfl) dX6_weight_77 (fun c77 => ?_) (fun c77 => absurd c77 (by decide))
  refine r_iload C rfl dX6_weight_89 ?_
  refine r_iload_n C rfl dX6_weight_91 ?_
  refine t_if_eq C 104 (by decide) (show (0 : Int32).toInt = 0 from rfl) dX6_weight_92 (fun c92 => ?_) (fun c92 => absurd c92 (by decide))
  refine r_iconstv C 0 rfl dX6_weight_104 ?_
  refine r_iadd C dX6_weight_105 ?_
  refine r_iload_n C rfl dX6_weight_106 ?_
  refine r_iconstv C 2 rfl dX6_weight_107 ?_
  refine t_icmp_ne C 122 (by decide) (show (kM h i).toInt = 0 by rw [hk]; rfl) (show (2 : Int32).toInt = 2 from rfl) dX6_weight_108 (fun c108 => ?_) (fun c108 => absurd c108 (by decide))
  refine r_iconstv C 0 rfl dX6_weight_122 ?_
  refine r_iadd C dX6_weight_123 ?_
  exact r_iret C dX6_weight_124 rfl (Nat.le_refl _) rfl rfl

set_option maxHeartbeats 4000000 in
set_option maxRecDepth 100000 in
theorem sp_weightM1 (G : oG) {h : oH} (hs : oSh h) (v : Int32) {i : Nat} (hv : v.toInt = (i : Int)) (hi : i < 24) {z : Nat} (hz : (hI h 12 44).toInt = (z : Int)) (hl : z + 1 < 16) (hk : kM h i = 1) : oSp G mX6_weight [.ref 12, .int v] h (some (.int (hI h 17 i - hI h 18 i + hI h 19 i + 0))) (pM (pM h z 11) (z + 1) 10) := by
  refine oSp.intro [some (.ref 12), some (.int v), none, none, none] rfl (Nat.le_of_ble_eq_true rfl) (plainFor_of_name (by decide +kernel)) (Nat.le_refl _) ?_
  intro p l e R s m args below meth c C
  refine r_aload_n C rfl rfl dX6_weight_0 ?_
  refine r_iload_n C rfl dX6_weight_1 ?_
  refine r_callV C (sp_kindOf G (by exact hs) _ hv hi) kv_X6_kindOf kn_X6_kindOf rfl dX6_weight_2 cl_X6_275 ⟨Nat.le_of_ble_eq_true rfl, Nat.le_of_ble_eq_true rfl⟩ (by decide) rfl rfl (q_lt hs (by decide)) (Nat.le_refl _) rfl (Nat.le_of_ble_eq_true rfl) ?_
  refine r_istore_n C rfl (Nat.le_of_ble_eq_true rfl) dX6_weight_5 ?_
  refine r_iload_n C rfl dX6_weight_6 ?_
  refine r_iconstv C 1 rfl dX6_weight_7 ?_
  refine t_icmp_eq C 16 (by decide) (show (kM h i).toInt = 1 by rw [hk]; rfl) (show (1 : Int32).toInt = 1 from rfl) dX6_weight_8 (fun c8 => ?_) (fun c8 => absurd c8 (by decide))
  refine r_iconstv C 1 rfl dX6_weight_16 ?_
  refine r_goto C 21 (by decide) dX6_weight_17 ?_
  refine r_istore_n C rfl (Nat.le_of_ble_eq_true rfl) dX6_weight_21 ?_
  refine r_iload_n C rfl dX6_weight_22 ?_
  refine r_iconstv C 3 rfl dX6_weight_23 ?_
  refine t_icmp_ne C 33 (by decide) (show (kM h i).toInt = 1 by rw [hk]; rfl) (show (3 : Int32).toInt = 3 from rfl) dX6_weight_24 (fun c24 => ?_) (fun c24 => absurd c24 (by decide))
  refine r_iload_n C rfl dX6_weight_33 ?_
  refine r_iconstv C 2 rfl dX6_weight_34 ?_
  refine t_icmp_ne C 44 (by decide) (show (kM h i).toInt = 1 by rw [hk]; rfl) (show (2 : Int32).toInt = 2 from rfl) dX6_weight_35 (fun c35 => ?_) (fun c35 => absurd c35 (by decide))
  refine r_iload_n C rfl dX6_weight_44 ?_
  refine t_if_eq C 54 (by decide) (show (1 : Int32).toInt = 1 from rfl) dX6_weight_45 (fun c45 => absurd c45 (by decide)) (fun c45 => ?_)
  refine r_aload_n C rfl rfl dX6_weight_48 ?_
  refine r_bipush C 11 rfl dX6_weight_49 ?_
  refine r_callV C (sp_began G (by exact hs) (by exact hz) (by omega) _) kv_X6_began kn_X6_began rfl dX6_weight_51 cl_X6_284 ⟨Nat.le_of_ble_eq_true rfl, Nat.le_of_ble_eq_true rfl⟩ (by decide) rfl rfl (q_lt hs (by decide)) (Nat.le_refl _) rfl (Nat.le_of_ble_eq_true rfl) ?_
  refine r_aload_n C rfl rfl dX6_weight_54 ?_
  refine r_bipush C 10 rfl dX6_weight_55 ?_
  refine r_callV C (sp_began G (by exact hs) (by exact (zz (h := h) hz (by omega))) (by omega) _) kv_X6_began kn_X6_began rfl dX6_weight_57 cl_X6_284 ⟨Nat.le_of_ble_eq_true rfl, Nat.le_of_ble_eq_true rfl⟩ (by decide) rfl rfl (q_lt hs (by decide)) (Nat.le_refl _) rfl (Nat.le_of_ble_eq_true rfl) ?_
  refine r_aload_n C rfl rfl dX6_weight_60 ?_
  refine r_getO C dX6_weight_61 fl_X6_22 rfl rfl (q_lt hs (by decide)) (sh_12_6 hs) ?_
  refine r_iload_n C rfl dX6_weight_64 ?_
  refine r_iald C (i) (by have t := hv; omega) (by omega) dX6_weight_65 rfl (q_lt hs (by decide)) ?_
  refine r_aload_n C rfl rfl dX6_weight_66 ?_
  refine r_getO C dX6_weight_67 fl_X6_25 rfl rfl (q_lt hs (by decide)) (sh_12_7 hs) ?_
  refine r_iload_n C rfl dX6_weight_70 ?_
  refine r_iald C (i) (by have t := hv; omega) (by omega) dX6_weight_71 rfl (q_lt hs (by decide)) ?_
  refine r_isub C dX6_weight_72 ?_
  refine r_istore C rfl (Nat.le_of_ble_eq_true rfl) dX6_weight_73 ?_
  refine r_iload_n C rfl dX6_weight_75 ?_
  refine r_iconstv C 3 rfl dX6_weight_76 ?_
  refine t_icmp_ne C 89 (by decide) (show (kM h i).toInt = 1 by rw [hk]; rfl) (show (3 : Int32).toInt = 3 from rfl) dX6_weight_77 (fun c77 => ?_) (fun c77 => absurd c77 (by decide))
  refine r_iload C rfl dX6_weight_89 ?_
  refine r_iload_n C rfl dX6_weight_91 ?_
  refine t_if_eq C 104 (by decide) (show (1 : Int32).toInt = 1 from rfl) dX6_weight_92 (fun c92 => absurd c92 (by decide)) (fun c92 => ?_)
  refine r_aload_n C rfl rfl dX6_weight_95 ?_
  refine r_getO C dX6_weight_96 fl_X6_28 rfl rfl (q_lt hs (by decide)) (sh_12_8 hs) ?_
  refine r_iload_n C rfl dX6_weight_99 ?_
  refine r_iald C (i) (by have t := hv; omega) (by omega) dX6_weight_100 rfl (q_lt hs (by decide)) ?_
  refine r_goto C 105 (by decide) dX6_weight_101 ?_
  refine r_iadd C dX6_weight_105 ?_
  refine r_iload_n C rfl dX6_weight_106 ?_
  refine r_iconstv C 2 rfl dX6_weight_107 ?_
  refine t_icmp_ne C 122 (by decide) (show (kM h i).toInt = 1 by rw [hk]; rfl) (show (2 : Int32).toInt = 2 from rfl) dX6_weight_108 (fun c108 => ?_) (fun c108 => absurd c108 (by decide))
  refine r_iconstv C 0 rfl dX6_weight_122 ?_
  refine r_iadd C dX6_weight_123 ?_
  exact r_iret C dX6_weight_124 rfl (Nat.le_refl _) rfl rfl

set_option maxHeartbeats 4000000 in
set_option maxRecDepth 100000 in
theorem sp_weightM2 (G : oG) {h : oH} (hs : oSh h) (v : Int32) {i : Nat} (hv : v.toInt = (i : Int)) (hi : i < 24) {z : Nat} (hz : (hI h 12 44).toInt = (z : Int)) (hl : z + 2 < 16) (hk : kM h i = 2) : oSp G mX6_weight [.ref 12, .int v] h (some (.int (hI h 17 i - hI h 18 i + hI h 19 i + hI h 16 (4 * i)))) (pM (pM (pM h z 12) (z + 1) 11) (z + 2) 10) := by
  refine oSp.intro [some (.ref 12), some (.int v), none, none, none] rfl (Nat.le_of_ble_eq_true rfl) (plainFor_of_name (by decide +kernel)) (Nat.le_refl _) ?_
  intro p l e R s m args below meth c C
  refine r_aload_n C rfl rfl dX6_weight_0 ?_
  refine r_iload_n C rfl dX6_weight_1 ?_
  refine r_callV C (sp_kindOf G (by exact hs) _ hv hi) kv_X6_kindOf kn_X6_kindOf rfl dX6_weight_2 cl_X6_275 ⟨Nat.le_of_ble_eq_true rfl, Nat.le_of_ble_eq_true rfl⟩ (by decide) rfl rfl (q_lt hs (by decide)) (Nat.le_refl _) rfl (Nat.le_of_ble_eq_true rfl) ?_
  refine r_istore_n C rfl (Nat.le_of_ble_eq_true rfl) dX6_weight_5 ?_
  refine r_iload_n C rfl dX6_weight_6 ?_
  refine r_iconstv C 1 rfl dX6_weight_7 ?_
  refine t_icmp_eq C 16 (by decide) (show (kM h i).toInt = 2 by rw [hk]; rfl) (show (1 : Int32).toInt = 1 from rfl) dX6_weight_8 (fun c8 => absurd c8 (by decide)) (fun c8 => ?_)
  refine r_iload_n C rfl dX6_weight_11 ?_
  refine r_iconstv C 2 rfl dX6_weight_12 ?_
  refine t_icmp_ne C 20 (by decide) (show (kM h i).toInt = 2 by rw [hk]; rfl) (show (2 : Int32).toInt = 2 from rfl) dX6_weight_13 (fun c13 => absurd c13 (by decide)) (fun c13 => ?_)
  refine r_iconstv C 1 rfl dX6_weight_16 ?_
  refine r_goto C 21 (by decide) dX6_weight_17 ?_
  refine r_istore_n C rfl (Nat.le_of_ble_eq_true rfl) dX6_weight_21 ?_
  refine r_iload_n C rfl dX6_weight_22 ?_
  refine r_iconstv C 3 rfl dX6_weight_23 ?_
  refine t_icmp_ne C 33 (by decide) (show (kM h i).toInt = 2 by rw [hk]; rfl) (show (3 : Int32).toInt = 3 from rfl) dX6_weight_24 (fun c24 => ?_) (fun c24 => absurd c24 (by decide))
  refine r_iload_n C rfl dX6_weight_33 ?_
  refine r_iconstv C 2 rfl dX6_weight_34 ?_
  refine t_icmp_ne C 44 (by decide) (show (kM h i).toInt = 2 by rw [hk]; rfl) (show (2 : Int32).toInt = 2 from rfl) dX6_weight_35 (fun c35 => absurd c35 (by decide)) (fun c35 => ?_)
  refine r_aload_n C rfl rfl dX6_weight_38 ?_
  refine r_bipush C 12 rfl dX6_weight_39 ?_
  refine r_callV C (sp_began G (by exact hs) (by exact hz) (by omega) _) kv_X6_began kn_X6_began rfl dX6_weight_41 cl_X6_284 ⟨Nat.le_of_ble_eq_true rfl, Nat.le_of_ble_eq_true rfl⟩ (by decide) rfl rfl (q_lt hs (by decide)) (Nat.le_refl _) rfl (Nat.le_of_ble_eq_true rfl) ?_
  refine r_iload_n C rfl dX6_weight_44 ?_
  refine t_if_eq C 54 (by decide) (show (1 : Int32).toInt = 1 from rfl) dX6_weight_45 (fun c45 => absurd c45 (by decide)) (fun c45 => ?_)
  refine r_aload_n C rfl rfl dX6_weight_48 ?_
  refine r_bipush C 11 rfl dX6_weight_49 ?_
  refine r_callV C (sp_began G (by exact hs) (by exact (zz (h := h) hz (by omega))) (by omega) _) kv_X6_began kn_X6_began rfl dX6_weight_51 cl_X6_284 ⟨Nat.le_of_ble_eq_true rfl, Nat.le_of_ble_eq_true rfl⟩ (by decide) rfl rfl (q_lt hs (by decide)) (Nat.le_refl _) rfl (Nat.le_of_ble_eq_true rfl) ?_
  refine r_aload_n C rfl rfl dX6_weight_54 ?_
  refine r_bipush C 10 rfl dX6_weight_55 ?_
  refine r_callV C (sp_began G (by exact hs) (by exact (zz (h := h) (zz (h := h) hz (by omega)) (by omega))) (by omega) _) kv_X6_began kn_X6_began rfl dX6_weight_57 cl_X6_284 ⟨Nat.le_of_ble_eq_true rfl, Nat.le_of_ble_eq_true rfl⟩ (by decide) rfl rfl (q_lt hs (by decide)) (Nat.le_refl _) rfl (Nat.le_of_ble_eq_true rfl) ?_
  refine r_aload_n C rfl rfl dX6_weight_60 ?_
  refine r_getO C dX6_weight_61 fl_X6_22 rfl rfl (q_lt hs (by decide)) (sh_12_6 hs) ?_
  refine r_iload_n C rfl dX6_weight_64 ?_
  refine r_iald C (i) (by have t := hv; omega) (by omega) dX6_weight_65 rfl (q_lt hs (by decide)) ?_
  refine r_aload_n C rfl rfl dX6_weight_66 ?_
  refine r_getO C dX6_weight_67 fl_X6_25 rfl rfl (q_lt hs (by decide)) (sh_12_7 hs) ?_
  refine r_iload_n C rfl dX6_weight_70 ?_
  refine r_iald C (i) (by have t := hv; omega) (by omega) dX6_weight_71 rfl (q_lt hs (by decide)) ?_
  refine r_isub C dX6_weight_72 ?_
  refine r_istore C rfl (Nat.le_of_ble_eq_true rfl) dX6_weight_73 ?_
  refine r_iload_n C rfl dX6_weight_75 ?_
  refine r_iconstv C 3 rfl dX6_weight_76 ?_
  refine t_icmp_ne C 89 (by decide) (show (kM h i).toInt = 2 by rw [hk]; rfl) (show (3 : Int32).toInt = 3 from rfl) dX6_weight_77 (fun c77 => ?_) (fun c77 => absurd c77 (by decide))
  refine r_iload C rfl dX6_weight_89 ?_
  refine r_iload_n C rfl dX6_weight_91 ?_
  refine t_if_eq C 104 (by decide) (show (1 : Int32).toInt = 1 from rfl) dX6_weight_92 (fun c92 => absurd c92 (by decide)) (fun c92 => ?_)
  refine r_aload_n C rfl rfl dX6_weight_95 ?_
  refine r_getO C dX6_weight_96 fl_X6_28 rfl rfl (q_lt hs (by decide)) (sh_12_8 hs) ?_
  refine r_iload_n C rfl dX6_weight_99 ?_
  refine r_iald C (i) (by have t := hv; omega) (by omega) dX6_weight_100 rfl (q_lt hs (by decide)) ?_
  refine r_goto C 105 (by decide) dX6_weight_101 ?_
  refine r_iadd C dX6_weight_105 ?_
  refine r_iload_n C rfl dX6_weight_106 ?_
  refine r_iconstv C 2 rfl dX6_weight_107 ?_
  refine t_icmp_ne C 122 (by decide) (show (kM h i).toInt = 2 by rw [hk]; rfl) (show (2 : Int32).toInt = 2 from rfl) dX6_weight_108 (fun c108 => absurd c108 (by decide)) (fun c108 => ?_)
  refine r_aload_n C rfl rfl dX6_weight_111 ?_
  refine r_getO C dX6_weight_112 fl_X6_19 rfl rfl (q_lt hs (by decide)) (sh_12_5 hs) ?_
  refine r_iconstv C 4 rfl dX6_weight_115 ?_
  refine r_iload_n C rfl dX6_weight_116 ?_
  refine r_imul C dX6_weight_117 ?_
  refine r_iald C ((4) * (i)) (by have t := (tM (show (4 : Int32).toInt = 4 from rfl) hv (by omega)); omega) (by omega) dX6_weight_118 rfl (q_lt hs (by decide)) ?_
  refine r_goto C 123 (by decide) dX6_weight_119 ?_
  refine r_iadd C dX6_weight_123 ?_
  exact r_iret C dX6_weight_124 rfl (Nat.le_refl _) rfl rfl

set_option maxHeartbeats 4000000 in
set_option maxRecDepth 100000 in
theorem sp_weightM3 (G : oG) {h : oH} (hs : oSh h) (v : Int32) {i : Nat} (hv : v.toInt = (i : Int)) (hi : i < 24) {z : Nat} (hz : (hI h 12 44).toInt = (z : Int)) (hl : z + 1 < 16) (hk : kM h i = 3) : oSp G mX6_weight [.ref 12, .int v] h (some (.int (hI h 17 i - hI h 18 i + 5000))) (pM (pM h z 13) (z + 1) 10) := by
  refine oSp.intro [some (.ref 12), some (.int v), none, none, none] rfl (Nat.le_of_ble_eq_true rfl) (plainFor_of_name (by decide +kernel)) (Nat.le_refl _) ?_
  intro p l e R s m args below meth c C
  refine r_aload_n C rfl rfl dX6_weight_0 ?_
  refine r_iload_n C rfl dX6_weight_1 ?_
  refine r_callV C (sp_kindOf G (by exact hs) _ hv hi) kv_X6_kindOf kn_X6_kindOf rfl dX6_weight_2 cl_X6_275 ⟨Nat.le_of_ble_eq_true rfl, Nat.le_of_ble_eq_true rfl⟩ (by decide) rfl rfl (q_lt hs (by decide)) (Nat.le_refl _) rfl (Nat.le_of_ble_eq_true rfl) ?_
  refine r_istore_n C rfl (Nat.le_of_ble_eq_true rfl) dX6_weight_5 ?_
  refine r_iload_n C rfl dX6_weight_6 ?_
  refine r_iconstv C 1 rfl dX6_weight_7 ?_
  refine t_icmp_eq C 16 (by decide) (show (kM h i).toInt = 3 by rw [hk]; rfl) (show (1 : Int32).toInt = 1 from rfl) dX6_weight_8 (fun c8 => absurd c8 (by decide)) (fun c8 => ?_)
  refine r_iload_n C rfl dX6_weight_11 ?_
  refine r_iconstv C 2 rfl dX6_weight_12 ?_
  refine t_icmp_ne C 20 (by decide) (show (kM h i).toInt = 3 by rw [hk]; rfl) (show (2 : Int32).toInt = 2 from rfl) dX6_weight_13 (fun c13 => ?_) (fun c13 => absurd c13 (by decide))
  refine r_iconstv C 0 rfl dX6_weight_20 ?_
  refine r_istore_n C rfl (Nat.le_of_ble_eq_true rfl) dX6_weight_21 ?_
  refine r_iload_n C rfl dX6_weight_22 ?_
  refine r_iconstv C 3 rfl dX6_weight_23 ?_
  refine t_icmp_ne C 33 (by decide) (show (kM h i).toInt = 3 by rw [hk]; rfl) (show (3 : Int32).toInt = 3 from rfl) dX6_weight_24 (fun c24 => absurd c24 (by decide)) (fun c24 => ?_)
  refine r_aload_n C rfl rfl dX6_weight_27 ?_
  refine r_bipush C 13 rfl dX6_weight_28 ?_
  refine r_callV C (sp_began G (by exact hs) (by exact hz) (by omega) _) kv_X6_began kn_X6_began rfl dX6_weight_30 cl_X6_284 ⟨Nat.le_of_ble_eq_true rfl, Nat.le_of_ble_eq_true rfl⟩ (by decide) rfl rfl (q_lt hs (by decide)) (Nat.le_refl _) rfl (Nat.le_of_ble_eq_true rfl) ?_
  refine r_iload_n C rfl dX6_weight_33 ?_
  refine r_iconstv C 2 rfl dX6_weight_34 ?_
  refine t_icmp_ne C 44 (by decide) (show (kM h i).toInt = 3 by rw [hk]; rfl) (show (2 : Int32).toInt = 2 from rfl) dX6_weight_35 (fun c35 => ?_) (fun c35 => absurd c35 (by decide))
  refine r_iload_n C rfl dX6_weight_44 ?_
  refine t_if_eq C 54 (by decide) (show (0 : Int32).toInt = 0 from rfl) dX6_weight_45 (fun c45 => ?_) (fun c45 => absurd c45 (by decide))
  refine r_aload_n C rfl rfl dX6_weight_54 ?_
  refine r_bipush C 10 rfl dX6_weight_55 ?_
  refine r_callV C (sp_began G (by exact hs) (by exact (zz (h := h) hz (by omega))) (by omega) _) kv_X6_began kn_X6_began rfl dX6_weight_57 cl_X6_284 ⟨Nat.le_of_ble_eq_true rfl, Nat.le_of_ble_eq_true rfl⟩ (by decide) rfl rfl (q_lt hs (by decide)) (Nat.le_refl _) rfl (Nat.le_of_ble_eq_true rfl) ?_
  refine r_aload_n C rfl rfl dX6_weight_60 ?_
  refine r_getO C dX6_weight_61 fl_X6_22 rfl rfl (q_lt hs (by decide)) (sh_12_6 hs) ?_
  refine r_iload_n C rfl dX6_weight_64 ?_
  refine r_iald C (i) (by have t := hv; omega) (by omega) dX6_weight_65 rfl (q_lt hs (by decide)) ?_
  refine r_aload_n C rfl rfl dX6_weight_66 ?_
  refine r_getO C dX6_weight_67 fl_X6_25 rfl rfl (q_lt hs (by decide)) (sh_12_7 hs) ?_
  refine r_iload_n C rfl dX6_weight_70 ?_
  refine r_iald C (i) (by have t := hv; omega) (by omega) dX6_weight_71 rfl (q_lt hs (by decide)) ?_
  refine r_isub C dX6_weight_72 ?_
  refine r_istore C rfl (Nat.le_of_ble_eq_true rfl) dX6_weight_73 ?_
  refine r_iload_n C rfl dX6_weight_75 ?_
  refine r_iconstv C 3 rfl dX6_weight_76 ?_
  refine t_icmp_ne C 89 (by decide) (show (kM h i).toInt = 3 by rw [hk]; rfl) (show (3 : Int32).toInt = 3 from rfl) dX6_weight_77 (fun c77 => absurd c77 (by decide)) (fun c77 => ?_)
  refine r_iload C rfl dX6_weight_80 ?_
  refine r_sipush C 5000 rfl dX6_weight_82 ?_
  refine r_iadd C dX6_weight_85 ?_
  refine r_goto C 124 (by decide) dX6_weight_86 ?_
  exact r_iret C dX6_weight_124 rfl (Nat.le_refl _) rfl rfl

theorem kM_pM {h : oH} {i z : Nat} {v : Int32} : kM (pM h z v) i = kM h i := rfl
set_option maxHeartbeats 4000000 in
set_option maxRecDepth 100000 in
theorem sp_marked0 (G : oG) {h : oH} (hs : oSh h) (v : Int32) {i : Nat} (hv : v.toInt = (i : Int)) (hi : i < 24) {z : Nat} (hz : (hI h 12 44).toInt = (z : Int)) (hl : z + 0 < 16) (hk : kM h i = 0) : oSp G mX6_marked [.ref 12, .int v] h (some (.int (hI h 15 i + 0))) (pM h z 20) := by
  refine oSp.intro [some (.ref 12), some (.int v), none, none] rfl (Nat.le_of_ble_eq_true rfl) (plainFor_of_name (by decide +kernel)) (Nat.le_refl _) ?_
  intro p l e R s m args below meth c C
  refine r_aload_n C rfl rfl dX6_marked_0 ?_
  refine r_iload_n C rfl dX6_marked_1 ?_
  refine r_callV C (sp_kindOf G (by exact hs) _ hv hi) kv_X6_kindOf kn_X6_kindOf rfl dX6_marked_2 cl_X6_275 ⟨Nat.le_of_ble_eq_true rfl, Nat.le_of_ble_eq_true rfl⟩ (by decide) rfl rfl (q_lt hs (by decide)) (Nat.le_refl _) rfl (Nat.le_of_ble_eq_true rfl) ?_
  refine r_istore_n C rfl (Nat.le_of_ble_eq_true rfl) dX6_marked_5 ?_
  refine r_iload_n C rfl dX6_marked_6 ?_
  refine r_iconstv C 1 rfl dX6_marked_7 ?_
  refine t_icmp_eq C 16 (by decide) (show (kM h i).toInt = 0 by rw [hk]; rfl) (show (1 : Int32).toInt = 1 from rfl) dX6_marked_8 (fun c8 => absurd c8 (by decide)) (fun c8 => ?_)
  refine r_iload_n C rfl dX6_marked_11 ?_
  refine r_iconstv C 2 rfl dX6_marked_12 ?_
  refine t_icmp_ne C 20 (by decide) (show (kM h i).toInt = 0 by rw [hk]; rfl) (show (2 : Int32).toInt = 2 from rfl) dX6_marked_13 (fun c13 => ?_) (fun c13 => absurd c13 (by decide))
  refine r_iconstv C 0 rfl dX6_marked_20 ?_
  refine r_istore_n C rfl (Nat.le_of_ble_eq_true rfl) dX6_marked_21 ?_
  refine r_iload_n C rfl dX6_marked_22 ?_
  refine r_iconstv C 3 rfl dX6_marked_23 ?_
  refine t_icmp_ne C 33 (by decide) (show (kM h i).toInt = 0 by rw [hk]; rfl) (show (3 : Int32).toInt = 3 from rfl) dX6_marked_24 (fun c24 => ?_) (fun c24 => absurd c24 (by decide))
  refine r_iload_n C rfl dX6_marked_33 ?_
  refine t_if_eq C 43 (by decide) (show (0 : Int32).toInt = 0 from rfl) dX6_marked_34 (fun c34 => ?_) (fun c34 => absurd c34 (by decide))
  refine r_aload_n C rfl rfl dX6_marked_43 ?_
  refine r_bipush C 20 rfl dX6_marked_44 ?_
  refine r_callV C (sp_began G (by exact hs) (by exact hz) (by omega) _) kv_X6_began kn_X6_began rfl dX6_marked_46 cl_X6_284 ⟨Nat.le_of_ble_eq_true rfl, Nat.le_of_ble_eq_true rfl⟩ (by decide) rfl rfl (q_lt hs (by decide)) (Nat.le_refl _) rfl (Nat.le_of_ble_eq_true rfl) ?_
  refine r_aload_n C rfl rfl dX6_marked_49 ?_
  refine r_getO C dX6_marked_50 fl_X6_16 rfl rfl (q_lt hs (by decide)) (sh_12_4 hs) ?_
  refine r_iload_n C rfl dX6_marked_53 ?_
  refine r_iald C (i) (by have t := hv; omega) (by omega) dX6_marked_54 rfl (q_lt hs (by decide)) ?_
  refine r_iload_n C rfl dX6_marked_55 ?_
  refine t_if_eq C 67 (by decide) (show (0 : Int32).toInt = 0 from rfl) dX6_marked_56 (fun c56 => ?_) (fun c56 => absurd c56 (by decide))
  refine r_iload_n C rfl dX6_marked_67 ?_
  refine r_iconstv C 3 rfl dX6_marked_68 ?_
  refine t_icmp_ne C 81 (by decide) (show (kM h i).toInt = 0 by rw [hk]; rfl) (show (3 : Int32).toInt = 3 from rfl) dX6_marked_69 (fun c69 => ?_) (fun c69 => absurd c69 (by decide))
  refine r_iconstv C 0 rfl dX6_marked_81 ?_
  refine r_iadd C dX6_marked_82 ?_
  exact r_iret C dX6_marked_83 rfl (Nat.le_refl _) rfl rfl

set_option maxHeartbeats 4000000 in
set_option maxRecDepth 100000 in
theorem sp_marked1 (G : oG) {h : oH} (hs : oSh h) (v : Int32) {i : Nat} (hv : v.toInt = (i : Int)) (hi : i < 24) {z : Nat} (hz : (hI h 12 44).toInt = (z : Int)) (hl : z + 3 < 16) (hk : kM h i = 1) : oSp G mX6_marked [.ref 12, .int v] h (some (.int (hI h 15 i + (hI h 17 i - hI h 18 i + hI h 19 i + 0)))) (pM (pM (pM (pM h z 21) (z + 1) 20) (z + 2) 11) (z + 3) 10) := by
  refine oSp.intro [some (.ref 12), some (.int v), none, none] rfl (Nat.le_of_ble_eq_true rfl) (plainFor_of_name (by decide +kernel)) (Nat.le_refl _) ?_
  intro p l e R s m args below meth c C
  refine r_aload_n C rfl rfl dX6_marked_0 ?_
  refine r_iload_n C rfl dX6_marked_1 ?_
  refine r_callV C (sp_kindOf G (by exact hs) _ hv hi) kv_X6_kindOf kn_X6_kindOf rfl dX6_marked_2 cl_X6_275 ⟨Nat.le_of_ble_eq_true rfl, Nat.le_of_ble_eq_true rfl⟩ (by decide) rfl rfl (q_lt hs (by decide)) (Nat.le_refl _) rfl (Nat.le_of_ble_eq_true rfl) ?_
  refine r_istore_n C rfl (Nat.le_of_ble_eq_true rfl) dX6_marked_5 ?_
  refine r_iload_n C rfl dX6_marked_6 ?_
  refine r_iconstv C 1 rfl dX6_marked_7 ?_
  refine t_icmp_eq C 16 (by decide) (show (kM h i).toInt = 1 by rw [hk]; rfl) (show (1 : Int32).toInt = 1 from rfl) dX6_marked_8 (fun c8 => ?_) (fun c8 => absurd c8 (by decide))
  refine r_iconstv C 1 rfl dX6_marked_16 ?_
  refine r_goto C 21 (by decide) dX6_marked_17 ?_
  refine r_istore_n C rfl (Nat.le_of_ble_eq_true rfl) dX6_marked_21 ?_
  refine r_iload_n C rfl dX6_marked_22 ?_
  refine r_iconstv C 3 rfl dX6_marked_23 ?_
  refine t_icmp_ne C 33 (by decide) (show (kM h i).toInt = 1 by rw [hk]; rfl) (show (3 : Int32).toInt = 3 from rfl) dX6_marked_24 (fun c24 => ?_) (fun c24 => absurd c24 (by decide))
  refine r_iload_n C rfl dX6_marked_33 ?_
  refine t_if_eq C 43 (by decide) (show (1 : Int32).toInt = 1 from rfl) dX6_marked_34 (fun c34 => absurd c34 (by decide)) (fun c34 => ?_)
  refine r_aload_n C rfl rfl dX6_marked_37 ?_
  refine r_bipush C 21 rfl dX6_marked_38 ?_
  refine r_callV C (sp_began G (by exact hs) (by exact hz) (by omega) _) kv_X6_began kn_X6_began rfl dX6_marked_40 cl_X6_284 ⟨Nat.le_of_ble_eq_true rfl, Nat.le_of_ble_eq_true rfl⟩ (by decide) rfl rfl (q_lt hs (by decide)) (Nat.le_refl _) rfl (Nat.le_of_ble_eq_true rfl) ?_
  refine r_aload_n C rfl rfl dX6_marked_43 ?_
  refine r_bipush C 20 rfl dX6_marked_44 ?_
  refine r_callV C (sp_began G (by exact hs) (by exact (zz (h := h) hz (by omega))) (by omega) _) kv_X6_began kn_X6_began rfl dX6_marked_46 cl_X6_284 ⟨Nat.le_of_ble_eq_true rfl, Nat.le_of_ble_eq_true rfl⟩ (by decide) rfl rfl (q_lt hs (by decide)) (Nat.le_refl _) rfl (Nat.le_of_ble_eq_true rfl) ?_
  refine r_aload_n C rfl rfl dX6_marked_49 ?_
  refine r_getO C dX6_marked_50 fl_X6_16 rfl rfl (q_lt hs (by decide)) (sh_12_4 hs) ?_
  refine r_iload_n C rfl dX6_marked_53 ?_
  refine r_iald C (i) (by have t := hv; omega) (by omega) dX6_marked_54 rfl (q_lt hs (by decide)) ?_
  refine r_iload_n C rfl dX6_marked_55 ?_
  refine t_if_eq C 67 (by decide) (show (1 : Int32).toInt = 1 from rfl) dX6_marked_56 (fun c56 => absurd c56 (by decide)) (fun c56 => ?_)
  refine r_aload_n C rfl rfl dX6_marked_59 ?_
  refine r_iload_n C rfl dX6_marked_60 ?_
  refine r_callV C (sp_weightM1 G (by exact hs) _ hv hi (by exact (zz (h := h) (zz (h := h) hz (by omega)) (by omega))) (by omega) (by exact hk)) kv_X6_weight kn_X6_weight rfl dX6_marked_61 cl_X6_287 ⟨Nat.le_of_ble_eq_true rfl, Nat.le_of_ble_eq_true rfl⟩ (by decide) rfl rfl (q_lt hs (by decide)) (Nat.le_refl _) rfl (Nat.le_of_ble_eq_true rfl) ?_
  refine r_goto C 82 (by decide) dX6_marked_64 ?_
  refine r_iadd C dX6_marked_82 ?_
  exact r_iret C dX6_marked_83 rfl (Nat.le_refl _) rfl rfl

set_option maxHeartbeats 4000000 in
set_option maxRecDepth 100000 in
theorem sp_marked2 (G : oG) {h : oH} (hs : oSh h) (v : Int32) {i : Nat} (hv : v.toInt = (i : Int)) (hi : i < 24) {z : Nat} (hz : (hI h 12 44).toInt = (z : Int)) (hl : z + 4 < 16) (hk : kM h i = 2) : oSp G mX6_marked [.ref 12, .int v] h (some (.int (hI h 15 i + (hI h 17 i - hI h 18 i + hI h 19 i + hI h 16 (4 * i))))) (pM (pM (pM (pM (pM h z 21) (z + 1) 20) (z + 2) 12) (z + 3) 11) (z + 4) 10) := by
  refine oSp.intro [some (.ref 12), some (.int v), none, none] rfl (Nat.le_of_ble_eq_true rfl) (plainFor_of_name (by decide +kernel)) (Nat.le_refl _) ?_
  intro p l e R s m args below meth c C
  refine r_aload_n C rfl rfl dX6_marked_0 ?_
  refine r_iload_n C rfl dX6_marked_1 ?_
  refine r_callV C (sp_kindOf G (by exact hs) _ hv hi) kv_X6_kindOf kn_X6_kindOf rfl dX6_marked_2 cl_X6_275 ⟨Nat.le_of_ble_eq_true rfl, Nat.le_of_ble_eq_true rfl⟩ (by decide) rfl rfl (q_lt hs (by decide)) (Nat.le_refl _) rfl (Nat.le_of_ble_eq_true rfl) ?_
  refine r_istore_n C rfl (Nat.le_of_ble_eq_true rfl) dX6_marked_5 ?_
  refine r_iload_n C rfl dX6_marked_6 ?_
  refine r_iconstv C 1 rfl dX6_marked_7 ?_
  refine t_icmp_eq C 16 (by decide) (show (kM h i).toInt = 2 by rw [hk]; rfl) (show (1 : Int32).toInt = 1 from rfl) dX6_marked_8 (fun c8 => absurd c8 (by decide)) (fun c8 => ?_)
  refine r_iload_n C rfl dX6_marked_11 ?_
  refine r_iconstv C 2 rfl dX6_marked_12 ?_
  refine t_icmp_ne C 20 (by decide) (show (kM h i).toInt = 2 by rw [hk]; rfl) (show (2 : Int32).toInt = 2 from rfl) dX6_marked_13 (fun c13 => absurd c13 (by decide)) (fun c13 => ?_)
  refine r_iconstv C 1 rfl dX6_marked_16 ?_
  refine r_goto C 21 (by decide) dX6_marked_17 ?_
  refine r_istore_n C rfl (Nat.le_of_ble_eq_true rfl) dX6_marked_21 ?_
  refine r_iload_n C rfl dX6_marked_22 ?_
  refine r_iconstv C 3 rfl dX6_marked_23 ?_
  refine t_icmp_ne C 33 (by decide) (show (kM h i).toInt = 2 by rw [hk]; rfl) (show (3 : Int32).toInt = 3 from rfl) dX6_marked_24 (fun c24 => ?_) (fun c24 => absurd c24 (by decide))
  refine r_iload_n C rfl dX6_marked_33 ?_
  refine t_if_eq C 43 (by decide) (show (1 : Int32).toInt = 1 from rfl) dX6_marked_34 (fun c34 => absurd c34 (by decide)) (fun c34 => ?_)
  refine r_aload_n C rfl rfl dX6_marked_37 ?_
  refine r_bipush C 21 rfl dX6_marked_38 ?_
  refine r_callV C (sp_began G (by exact hs) (by exact hz) (by omega) _) kv_X6_began kn_X6_began rfl dX6_marked_40 cl_X6_284 ⟨Nat.le_of_ble_eq_true rfl, Nat.le_of_ble_eq_true rfl⟩ (by decide) rfl rfl (q_lt hs (by decide)) (Nat.le_refl _) rfl (Nat.le_of_ble_eq_true rfl) ?_
  refine r_aload_n C rfl rfl dX6_marked_43 ?_
  refine r_bipush C 20 rfl dX6_marked_44 ?_
  refine r_callV C (sp_began G (by exact hs) (by exact (zz (h := h) hz (by omega))) (by omega) _) kv_X6_began kn_X6_began rfl dX6_marked_46 cl_X6_284 ⟨Nat.le_of_ble_eq_true rfl, Nat.le_of_ble_eq_true rfl⟩ (by decide) rfl rfl (q_lt hs (by decide)) (Nat.le_refl _) rfl (Nat.le_of_ble_eq_true rfl) ?_
  refine r_aload_n C rfl rfl dX6_marked_49 ?_
  refine r_getO C dX6_marked_50 fl_X6_16 rfl rfl (q_lt hs (by decide)) (sh_12_4 hs) ?_
  refine r_iload_n C rfl dX6_marked_53 ?_
  refine r_iald C (i) (by have t := hv; omega) (by omega) dX6_marked_54 rfl (q_lt hs (by decide)) ?_
  refine r_iload_n C rfl dX6_marked_55 ?_
  refine t_if_eq C 67 (by decide) (show (1 : Int32).toInt = 1 from rfl) dX6_marked_56 (fun c56 => absurd c56 (by decide)) (fun c56 => ?_)
  refine r_aload_n C rfl rfl dX6_marked_59 ?_
  refine r_iload_n C rfl dX6_marked_60 ?_
  refine r_callV C (sp_weightM2 G (by exact hs) _ hv hi (by exact (zz (h := h) (zz (h := h) hz (by omega)) (by omega))) (by omega) (by exact hk)) kv_X6_weight kn_X6_weight rfl dX6_marked_61 cl_X6_287 ⟨Nat.le_of_ble_eq_true rfl, Nat.le_of_ble_eq_true rfl⟩ (by decide) rfl rfl (q_lt hs (by decide)) (Nat.le_refl _) rfl (Nat.le_of_ble_eq_true rfl) ?_
  refine r_goto C 82 (by decide) dX6_marked_64 ?_
  refine r_iadd C dX6_marked_82 ?_
  exact r_iret C dX6_marked_83 rfl (Nat.le_refl _) rfl rfl

set_option maxHeartbeats 4000000 in
set_option maxRecDepth 100000 in
theorem sp_marked3 (G : oG) {h : oH} (hs : oSh h) (v : Int32) {i : Nat} (hv : v.toInt = (i : Int)) (hi : i < 24) {z : Nat} (hz : (hI h 12 44).toInt = (z : Int)) (hl : z + 3 < 16) (hk : kM h i = 3) : oSp G mX6_marked [.ref 12, .int v] h (some (.int (hI h 15 i + -(hI h 17 i - hI h 18 i + 5000)))) (pM (pM (pM (pM h z 22) (z + 1) 20) (z + 2) 13) (z + 3) 10) := by
  refine oSp.intro [some (.ref 12), some (.int v), none, none] rfl (Nat.le_of_ble_eq_true rfl) (plainFor_of_name (by decide +kernel)) (Nat.le_refl _) ?_
  intro p l e R s m args below meth c C
  refine r_aload_n C rfl rfl dX6_marked_0 ?_
  refine r_iload_n C rfl dX6_marked_1 ?_
  refine r_callV C (sp_kindOf G (by exact hs) _ hv hi) kv_X6_kindOf kn_X6_kindOf rfl dX6_marked_2 cl_X6_275 ⟨Nat.le_of_ble_eq_true rfl, Nat.le_of_ble_eq_true rfl⟩ (by decide) rfl rfl (q_lt hs (by decide)) (Nat.le_refl _) rfl (Nat.le_of_ble_eq_true rfl) ?_
  refine r_istore_n C rfl (Nat.le_of_ble_eq_true rfl) dX6_marked_5 ?_
  refine r_iload_n C rfl dX6_marked_6 ?_
  refine r_iconstv C 1 rfl dX6_marked_7 ?_
  refine t_icmp_eq C 16 (by decide) (show (kM h i).toInt = 3 by rw [hk]; rfl) (show (1 : Int32).toInt = 1 from rfl) dX6_marked_8 (fun c8 => absurd c8 (by decide)) (fun c8 => ?_)
  refine r_iload_n C rfl dX6_marked_11 ?_
  refine r_iconstv C 2 rfl dX6_marked_12 ?_
  refine t_icmp_ne C 20 (by decide) (show (kM h i).toInt = 3 by rw [hk]; rfl) (show (2 : Int32).toInt = 2 from rfl) dX6_marked_13 (fun c13 => ?_) (fun c13 => absurd c13 (by decide))
  refine r_iconstv C 0 rfl dX6_marked_20 ?_
  refine r_istore_n C rfl (Nat.le_of_ble_eq_true rfl) dX6_marked_21 ?_
  refine r_iload_n C rfl dX6_marked_22 ?_
  refine r_iconstv C 3 rfl dX6_marked_23 ?_
  refine t_icmp_ne C 33 (by decide) (show (kM h i).toInt = 3 by rw [hk]; rfl) (show (3 : Int32).toInt = 3 from rfl) dX6_marked_24 (fun c24 => absurd c24 (by decide)) (fun c24 => ?_)
  refine r_aload_n C rfl rfl dX6_marked_27 ?_
  refine r_bipush C 22 rfl dX6_marked_28 ?_
  refine r_callV C (sp_began G (by exact hs) (by exact hz) (by omega) _) kv_X6_began kn_X6_began rfl dX6_marked_30 cl_X6_284 ⟨Nat.le_of_ble_eq_true rfl, Nat.le_of_ble_eq_true rfl⟩ (by decide) rfl rfl (q_lt hs (by decide)) (Nat.le_refl _) rfl (Nat.le_of_ble_eq_true rfl) ?_
  refine r_iload_n C rfl dX6_marked_33 ?_
  refine t_if_eq C 43 (by decide) (show (0 : Int32).toInt = 0 from rfl) dX6_marked_34 (fun c34 => ?_) (fun c34 => absurd c34 (by decide))
  refine r_aload_n C rfl rfl dX6_marked_43 ?_
  refine r_bipush C 20 rfl dX6_marked_44 ?_
  refine r_callV C (sp_began G (by exact hs) (by exact (zz (h := h) hz (by omega))) (by omega) _) kv_X6_began kn_X6_began rfl dX6_marked_46 cl_X6_284 ⟨Nat.le_of_ble_eq_true rfl, Nat.le_of_ble_eq_true rfl⟩ (by decide) rfl rfl (q_lt hs (by decide)) (Nat.le_refl _) rfl (Nat.le_of_ble_eq_true rfl) ?_
  refine r_aload_n C rfl rfl dX6_marked_49 ?_
  refine r_getO C dX6_marked_50 fl_X6_16 rfl rfl (q_lt hs (by decide)) (sh_12_4 hs) ?_
  refine r_iload_n C rfl dX6_marked_53 ?_
  refine r_iald C (i) (by have t := hv; omega) (by omega) dX6_marked_54 rfl (q_lt hs (by decide)) ?_
  refine r_iload_n C rfl dX6_marked_55 ?_
  refine t_if_eq C 67 (by decide) (show (0 : Int32).toInt = 0 from rfl) dX6_marked_56 (fun c56 => ?_) (fun c56 => absurd c56 (by decide))
  refine r_iload_n C rfl dX6_marked_67 ?_
  refine r_iconstv C 3 rfl dX6_marked_68 ?_
  refine t_icmp_ne C 81 (by decide) (show (kM h i).toInt = 3 by rw [hk]; rfl) (show (3 : Int32).toInt = 3 from rfl) dX6_marked_69 (fun c69 => absurd c69 (by decide)) (fun c69 => ?_)
  refine r_aload_n C rfl rfl dX6_marked_72 ?_
  refine r_iload_n C rfl dX6_marked_73 ?_
  refine r_callV C (sp_weightM3 G (by exact hs) _ hv hi (by exact (zz (h := h) (zz (h := h) hz (by omega)) (by omega))) (by omega) (by exact hk)) kv_X6_weight kn_X6_weight rfl dX6_marked_74 cl_X6_287 ⟨Nat.le_of_ble_eq_true rfl, Nat.le_of_ble_eq_true rfl⟩ (by decide) rfl rfl (q_lt hs (by decide)) (Nat.le_refl _) rfl (Nat.le_of_ble_eq_true rfl) ?_
  refine r_ineg C dX6_marked_77 ?_
  refine r_goto C 82 (by decide) dX6_marked_78 ?_
  refine r_iadd C dX6_marked_82 ?_
  exact r_iret C dX6_marked_83 rfl (Nat.le_refl _) rfl rfl
end
