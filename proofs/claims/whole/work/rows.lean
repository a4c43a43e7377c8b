section
-- ===== PART A: goes FIRST, ahead of the names: the tables' words, and 'selects' of the private methods out of them =====
/-- a private method of a class that the tables say can be made, by its rows of tables_1 -/
def lw_okq (q : MethodName × Nat) : Prop := (q.1.cls ≠ "java/lang/invoke/MethodHandle" ∧ q.1.cls ≠ "java/lang/invoke/VarHandle") ∧ Cond.instantiable q.1.cls q.2 ∈ tables_1 ∧ Cond.privateMethod q.1 ∈ tables_1 ∧ Cond.instanceMethod q.1 ∈ tables_1
theorem lw_p0 : lw_okq (⟨"OilRound", "houseAt", "(I)LOilRound$House;"⟩, 14) := ⟨⟨by decide +kernel, by decide +kernel⟩, List.mem_of_getElem? (i := 15) (by decide +kernel), List.mem_of_getElem? (i := 256) (by decide +kernel), List.mem_of_getElem? (i := 257) (by decide +kernel)⟩
theorem lw_p1 : lw_okq (⟨"OilRound$House", "low", "(I)I"⟩, 15) := ⟨⟨by decide +kernel, by decide +kernel⟩, List.mem_of_getElem? (i := 164) (by decide +kernel), List.mem_of_getElem? (i := 272) (by decide +kernel), List.mem_of_getElem? (i := 273) (by decide +kernel)⟩
theorem lw_p2 : lw_okq (⟨"OilRound$House", "high", "(I)I"⟩, 15) := ⟨⟨by decide +kernel, by decide +kernel⟩, List.mem_of_getElem? (i := 164) (by decide +kernel), List.mem_of_getElem? (i := 279) (by decide +kernel), List.mem_of_getElem? (i := 280) (by decide +kernel)⟩
theorem lw_p3 : lw_okq (⟨"OilRound", "countDue", "()I"⟩, 14) := ⟨⟨by decide +kernel, by decide +kernel⟩, List.mem_of_getElem? (i := 15) (by decide +kernel), List.mem_of_getElem? (i := 291) (by decide +kernel), List.mem_of_getElem? (i := 292) (by decide +kernel)⟩
theorem lw_p4 : lw_okq (⟨"OilRound", "mostUrgent", "(I)I"⟩, 14) := ⟨⟨by decide +kernel, by decide +kernel⟩, List.mem_of_getElem? (i := 15) (by decide +kernel), List.mem_of_getElem? (i := 333) (by decide +kernel), List.mem_of_getElem? (i := 334) (by decide +kernel)⟩
theorem lw_p5 : lw_okq (⟨"OilRound", "isNoRound", "(I)Z"⟩, 14) := ⟨⟨by decide +kernel, by decide +kernel⟩, List.mem_of_getElem? (i := 15) (by decide +kernel), List.mem_of_getElem? (i := 350) (by decide +kernel), List.mem_of_getElem? (i := 351) (by decide +kernel)⟩
theorem lw_p6 : lw_okq (⟨"OilRound", "needOf", "(I)I"⟩, 14) := ⟨⟨by decide +kernel, by decide +kernel⟩, List.mem_of_getElem? (i := 15) (by decide +kernel), List.mem_of_getElem? (i := 354) (by decide +kernel), List.mem_of_getElem? (i := 355) (by decide +kernel)⟩
theorem lw_p7 : lw_okq (⟨"OilRound$Route", "gather", "(I[LOilRound$House;)V"⟩, 7) := ⟨⟨by decide +kernel, by decide +kernel⟩, List.mem_of_getElem? (i := 25) (by decide +kernel), List.mem_of_getElem? (i := 362) (by decide +kernel), List.mem_of_getElem? (i := 363) (by decide +kernel)⟩
theorem lw_p8 : lw_okq (⟨"OilRound$Route", "measure", "(II)V"⟩, 7) := ⟨⟨by decide +kernel, by decide +kernel⟩, List.mem_of_getElem? (i := 25) (by decide +kernel), List.mem_of_getElem? (i := 367) (by decide +kernel), List.mem_of_getElem? (i := 368) (by decide +kernel)⟩
theorem lw_p9 : lw_okq (⟨"OilRound$Route", "between", "(II)I"⟩, 7) := ⟨⟨by decide +kernel, by decide +kernel⟩, List.mem_of_getElem? (i := 25) (by decide +kernel), List.mem_of_getElem? (i := 371) (by decide +kernel), List.mem_of_getElem? (i := 372) (by decide +kernel)⟩
theorem lw_p10 : lw_okq (⟨"OilRound$Route", "wayBy", "(III)I"⟩, 7) := ⟨⟨by decide +kernel, by decide +kernel⟩, List.mem_of_getElem? (i := 25) (by decide +kernel), List.mem_of_getElem? (i := 380) (by decide +kernel), List.mem_of_getElem? (i := 381) (by decide +kernel)⟩
theorem lw_p11 : lw_okq (⟨"OilRound$Route", "leastAt", "(II)I"⟩, 7) := ⟨⟨by decide +kernel, by decide +kernel⟩, List.mem_of_getElem? (i := 25) (by decide +kernel), List.mem_of_getElem? (i := 384) (by decide +kernel), List.mem_of_getElem? (i := 385) (by decide +kernel)⟩
theorem lw_p12 : lw_okq (⟨"OilRound$Route", "arrange", "()V"⟩, 7) := ⟨⟨by decide +kernel, by decide +kernel⟩, List.mem_of_getElem? (i := 25) (by decide +kernel), List.mem_of_getElem? (i := 389) (by decide +kernel), List.mem_of_getElem? (i := 390) (by decide +kernel)⟩
theorem lw_p13 : lw_okq (⟨"OilRound$Route", "firstNext", "(II)I"⟩, 7) := ⟨⟨by decide +kernel, by decide +kernel⟩, List.mem_of_getElem? (i := 25) (by decide +kernel), List.mem_of_getElem? (i := 393) (by decide +kernel), List.mem_of_getElem? (i := 394) (by decide +kernel)⟩
theorem lw_p14 : lw_okq (⟨"OilRound$Plan", "ahead", "(I)I"⟩, 3) := ⟨⟨by decide +kernel, by decide +kernel⟩, List.mem_of_getElem? (i := 170) (by decide +kernel), List.mem_of_getElem? (i := 419) (by decide +kernel), List.mem_of_getElem? (i := 420) (by decide +kernel)⟩
theorem lw_p15 : lw_okq (⟨"OilRound$House", "noteOf", "(I)I"⟩, 15) := ⟨⟨by decide +kernel, by decide +kernel⟩, List.mem_of_getElem? (i := 164) (by decide +kernel), List.mem_of_getElem? (i := 431) (by decide +kernel), List.mem_of_getElem? (i := 432) (by decide +kernel)⟩
def lw_privs_1 : List (MethodName × Nat) := [(⟨"OilRound", "houseAt", "(I)LOilRound$House;"⟩, 14), (⟨"OilRound$House", "low", "(I)I"⟩, 15), (⟨"OilRound$House", "high", "(I)I"⟩, 15), (⟨"OilRound", "countDue", "()I"⟩, 14), (⟨"OilRound", "mostUrgent", "(I)I"⟩, 14), (⟨"OilRound", "isNoRound", "(I)Z"⟩, 14), (⟨"OilRound", "needOf", "(I)I"⟩, 14), (⟨"OilRound$Route", "gather", "(I[LOilRound$House;)V"⟩, 7), (⟨"OilRound$Route", "measure", "(II)V"⟩, 7), (⟨"OilRound$Route", "between", "(II)I"⟩, 7), (⟨"OilRound$Route", "wayBy", "(III)I"⟩, 7), (⟨"OilRound$Route", "leastAt", "(II)I"⟩, 7), (⟨"OilRound$Route", "arrange", "()V"⟩, 7), (⟨"OilRound$Route", "firstNext", "(II)I"⟩, 7), (⟨"OilRound$Plan", "ahead", "(I)I"⟩, 3), (⟨"OilRound$House", "noteOf", "(I)I"⟩, 15)]
theorem lw_r1 : ∀ q ∈ lw_privs_1, lw_okq q := List.forall_mem_cons.mpr ⟨lw_p0, List.forall_mem_cons.mpr ⟨lw_p1, List.forall_mem_cons.mpr ⟨lw_p2, List.forall_mem_cons.mpr ⟨lw_p3, List.forall_mem_cons.mpr ⟨lw_p4, List.forall_mem_cons.mpr ⟨lw_p5, List.forall_mem_cons.mpr ⟨lw_p6, List.forall_mem_cons.mpr ⟨lw_p7, List.forall_mem_cons.mpr ⟨lw_p8, List.forall_mem_cons.mpr ⟨lw_p9, List.forall_mem_cons.mpr ⟨lw_p10, List.forall_mem_cons.mpr ⟨lw_p11, List.forall_mem_cons.mpr ⟨lw_p12, List.forall_mem_cons.mpr ⟨lw_p13, List.forall_mem_cons.mpr ⟨lw_p14, List.forall_mem_cons.mpr ⟨lw_p15, fun _ h => absurd h List.not_mem_nil⟩⟩⟩⟩⟩⟩⟩⟩⟩⟩⟩⟩⟩⟩⟩⟩
theorem lw_p16 : lw_okq (⟨"OilRound$House", "narrow", "(I)V"⟩, 15) := ⟨⟨by decide +kernel, by decide +kernel⟩, List.mem_of_getElem? (i := 164) (by decide +kernel), List.mem_of_getElem? (i := 435) (by decide +kernel), List.mem_of_getElem? (i := 436) (by decide +kernel)⟩
theorem lw_p17 : lw_okq (⟨"OilRound$PlanText", "readOnce", "([LOilRound$House;Z)I"⟩, 12) := ⟨⟨by decide +kernel, by decide +kernel⟩, List.mem_of_getElem? (i := 54) (by decide +kernel), List.mem_of_getElem? (i := 469) (by decide +kernel), List.mem_of_getElem? (i := 470) (by decide +kernel)⟩
theorem lw_p18 : lw_okq (⟨"OilRound$PlanText", "readToken", "()V"⟩, 12) := ⟨⟨by decide +kernel, by decide +kernel⟩, List.mem_of_getElem? (i := 54) (by decide +kernel), List.mem_of_getElem? (i := 473) (by decide +kernel), List.mem_of_getElem? (i := 474) (by decide +kernel)⟩
theorem lw_p19 : lw_okq (⟨"OilRound$PlanText", "byteAt", "(I)I"⟩, 12) := ⟨⟨by decide +kernel, by decide +kernel⟩, List.mem_of_getElem? (i := 54) (by decide +kernel), List.mem_of_getElem? (i := 477) (by decide +kernel), List.mem_of_getElem? (i := 478) (by decide +kernel)⟩
theorem lw_p20 : lw_okq (⟨"OilRound$PlanText", "nameToken", "()I"⟩, 12) := ⟨⟨by decide +kernel, by decide +kernel⟩, List.mem_of_getElem? (i := 54) (by decide +kernel), List.mem_of_getElem? (i := 484) (by decide +kernel), List.mem_of_getElem? (i := 485) (by decide +kernel)⟩
theorem lw_p21 : lw_okq (⟨"OilRound$PlanText", "isName", "(Ljava/lang/String;)Z"⟩, 12) := ⟨⟨by decide +kernel, by decide +kernel⟩, List.mem_of_getElem? (i := 54) (by decide +kernel), List.mem_of_getElem? (i := 489) (by decide +kernel), List.mem_of_getElem? (i := 490) (by decide +kernel)⟩
theorem lw_p22 : lw_okq (⟨"OilRound$PlanText", "numberToken", "()I"⟩, 12) := ⟨⟨by decide +kernel, by decide +kernel⟩, List.mem_of_getElem? (i := 54) (by decide +kernel), List.mem_of_getElem? (i := 547) (by decide +kernel), List.mem_of_getElem? (i := 548) (by decide +kernel)⟩
theorem lw_p23 : lw_okq (⟨"OilRound$PlanText", "takeToken", "([LOilRound$House;)I"⟩, 12) := ⟨⟨by decide +kernel, by decide +kernel⟩, List.mem_of_getElem? (i := 54) (by decide +kernel), List.mem_of_getElem? (i := 551) (by decide +kernel), List.mem_of_getElem? (i := 552) (by decide +kernel)⟩
theorem lw_p24 : lw_okq (⟨"OilRound$PlanText", "canStandHere", "()Z"⟩, 12) := ⟨⟨by decide +kernel, by decide +kernel⟩, List.mem_of_getElem? (i := 54) (by decide +kernel), List.mem_of_getElem? (i := 555) (by decide +kernel), List.mem_of_getElem? (i := 556) (by decide +kernel)⟩
theorem lw_p25 : lw_okq (⟨"OilRound$PlanText", "takeWay", "()V"⟩, 12) := ⟨⟨by decide +kernel, by decide +kernel⟩, List.mem_of_getElem? (i := 54) (by decide +kernel), List.mem_of_getElem? (i := 560) (by decide +kernel), List.mem_of_getElem? (i := 561) (by decide +kernel)⟩
theorem lw_p26 : lw_okq (⟨"OilRound$House", "isLeaky", "()Z"⟩, 15) := ⟨⟨by decide +kernel, by decide +kernel⟩, List.mem_of_getElem? (i := 164) (by decide +kernel), List.mem_of_getElem? (i := 585) (by decide +kernel), List.mem_of_getElem? (i := 586) (by decide +kernel)⟩
theorem lw_p27 : lw_okq (⟨"OilRound$House", "isSteady", "()Z"⟩, 15) := ⟨⟨by decide +kernel, by decide +kernel⟩, List.mem_of_getElem? (i := 164) (by decide +kernel), List.mem_of_getElem? (i := 589) (by decide +kernel), List.mem_of_getElem? (i := 590) (by decide +kernel)⟩
theorem lw_p28 : lw_okq (⟨"OilRound$House", "isKnown", "()Z"⟩, 15) := ⟨⟨by decide +kernel, by decide +kernel⟩, List.mem_of_getElem? (i := 164) (by decide +kernel), List.mem_of_getElem? (i := 593) (by decide +kernel), List.mem_of_getElem? (i := 594) (by decide +kernel)⟩
theorem lw_p29 : lw_okq (⟨"OilRound$Asks", "leakyWeight", "(LOilRound$House;)I"⟩, 2) := ⟨⟨by decide +kernel, by decide +kernel⟩, List.mem_of_getElem? (i := 100) (by decide +kernel), List.mem_of_getElem? (i := 619) (by decide +kernel), List.mem_of_getElem? (i := 620) (by decide +kernel)⟩
theorem lw_p30 : lw_okq (⟨"OilRound$Asks", "begin", "(I)V"⟩, 2) := ⟨⟨by decide +kernel, by decide +kernel⟩, List.mem_of_getElem? (i := 100) (by decide +kernel), List.mem_of_getElem? (i := 623) (by decide +kernel), List.mem_of_getElem? (i := 624) (by decide +kernel)⟩
theorem lw_p31 : lw_okq (⟨"OilRound$Asks", "lentWeight", "(LOilRound$House;)I"⟩, 2) := ⟨⟨by decide +kernel, by decide +kernel⟩, List.mem_of_getElem? (i := 100) (by decide +kernel), List.mem_of_getElem? (i := 627) (by decide +kernel), List.mem_of_getElem? (i := 628) (by decide +kernel)⟩
def lw_privs_2 : List (MethodName × Nat) := [(⟨"OilRound$House", "narrow", "(I)V"⟩, 15), (⟨"OilRound$PlanText", "readOnce", "([LOilRound$House;Z)I"⟩, 12), (⟨"OilRound$PlanText", "readToken", "()V"⟩, 12), (⟨"OilRound$PlanText", "byteAt", "(I)I"⟩, 12), (⟨"OilRound$PlanText", "nameToken", "()I"⟩, 12), (⟨"OilRound$PlanText", "isName", "(Ljava/lang/String;)Z"⟩, 12), (⟨"OilRound$PlanText", "numberToken", "()I"⟩, 12), (⟨"OilRound$PlanText", "takeToken", "([LOilRound$House;)I"⟩, 12), (⟨"OilRound$PlanText", "canStandHere", "()Z"⟩, 12), (⟨"OilRound$PlanText", "takeWay", "()V"⟩, 12), (⟨"OilRound$House", "isLeaky", "()Z"⟩, 15), (⟨"OilRound$House", "isSteady", "()Z"⟩, 15), (⟨"OilRound$House", "isKnown", "()Z"⟩, 15), (⟨"OilRound$Asks", "leakyWeight", "(LOilRound$House;)I"⟩, 2), (⟨"OilRound$Asks", "begin", "(I)V"⟩, 2), (⟨"OilRound$Asks", "lentWeight", "(LOilRound$House;)I"⟩, 2)]
theorem lw_r2 : ∀ q ∈ lw_privs_2, lw_okq q := List.forall_mem_cons.mpr ⟨lw_p16, List.forall_mem_cons.mpr ⟨lw_p17, List.forall_mem_cons.mpr ⟨lw_p18, List.forall_mem_cons.mpr ⟨lw_p19, List.forall_mem_cons.mpr ⟨lw_p20, List.forall_mem_cons.mpr ⟨lw_p21, List.forall_mem_cons.mpr ⟨lw_p22, List.forall_mem_cons.mpr ⟨lw_p23, List.forall_mem_cons.mpr ⟨lw_p24, List.forall_mem_cons.mpr ⟨lw_p25, List.forall_mem_cons.mpr ⟨lw_p26, List.forall_mem_cons.mpr ⟨lw_p27, List.forall_mem_cons.mpr ⟨lw_p28, List.forall_mem_cons.mpr ⟨lw_p29, List.forall_mem_cons.mpr ⟨lw_p30, List.forall_mem_cons.mpr ⟨lw_p31, fun _ h => absurd h List.not_mem_nil⟩⟩⟩⟩⟩⟩⟩⟩⟩⟩⟩⟩⟩⟩⟩⟩
theorem lw_p32 : lw_okq (⟨"OilRound$Asks", "steadyWeight", "(LOilRound$House;)I"⟩, 2) := ⟨⟨by decide +kernel, by decide +kernel⟩, List.mem_of_getElem? (i := 100) (by decide +kernel), List.mem_of_getElem? (i := 631) (by decide +kernel), List.mem_of_getElem? (i := 632) (by decide +kernel)⟩
theorem lw_p33 : lw_okq (⟨"OilRound$Asks", "knownWeight", "(LOilRound$House;)I"⟩, 2) := ⟨⟨by decide +kernel, by decide +kernel⟩, List.mem_of_getElem? (i := 100) (by decide +kernel), List.mem_of_getElem? (i := 635) (by decide +kernel), List.mem_of_getElem? (i := 636) (by decide +kernel)⟩
theorem lw_p34 : lw_okq (⟨"OilRound$Asks", "leakyMark", "(LOilRound$House;)I"⟩, 2) := ⟨⟨by decide +kernel, by decide +kernel⟩, List.mem_of_getElem? (i := 100) (by decide +kernel), List.mem_of_getElem? (i := 643) (by decide +kernel), List.mem_of_getElem? (i := 644) (by decide +kernel)⟩
theorem lw_p35 : lw_okq (⟨"OilRound$Asks", "lentMark", "(LOilRound$House;)I"⟩, 2) := ⟨⟨by decide +kernel, by decide +kernel⟩, List.mem_of_getElem? (i := 100) (by decide +kernel), List.mem_of_getElem? (i := 647) (by decide +kernel), List.mem_of_getElem? (i := 648) (by decide +kernel)⟩
theorem lw_p36 : lw_okq (⟨"OilRound$Asks", "knownMark", "(LOilRound$House;)I"⟩, 2) := ⟨⟨by decide +kernel, by decide +kernel⟩, List.mem_of_getElem? (i := 100) (by decide +kernel), List.mem_of_getElem? (i := 652) (by decide +kernel), List.mem_of_getElem? (i := 653) (by decide +kernel)⟩
theorem lw_p37 : lw_okq (⟨"OilRoundModel", "isHouse", "(I)Z"⟩, 45) := ⟨⟨by decide +kernel, by decide +kernel⟩, List.mem_of_getElem? (i := 670) (by decide +kernel), List.mem_of_getElem? (i := 829) (by decide +kernel), List.mem_of_getElem? (i := 830) (by decide +kernel)⟩
theorem lw_p38 : lw_okq (⟨"OilRoundModel", "lowOf", "(II)I"⟩, 45) := ⟨⟨by decide +kernel, by decide +kernel⟩, List.mem_of_getElem? (i := 670) (by decide +kernel), List.mem_of_getElem? (i := 839) (by decide +kernel), List.mem_of_getElem? (i := 840) (by decide +kernel)⟩
theorem lw_p39 : lw_okq (⟨"OilRoundModel", "highOf", "(II)I"⟩, 45) := ⟨⟨by decide +kernel, by decide +kernel⟩, List.mem_of_getElem? (i := 670) (by decide +kernel), List.mem_of_getElem? (i := 843) (by decide +kernel), List.mem_of_getElem? (i := 844) (by decide +kernel)⟩
theorem lw_p40 : lw_okq (⟨"OilRoundModel", "due", "()I"⟩, 45) := ⟨⟨by decide +kernel, by decide +kernel⟩, List.mem_of_getElem? (i := 670) (by decide +kernel), List.mem_of_getElem? (i := 852) (by decide +kernel), List.mem_of_getElem? (i := 853) (by decide +kernel)⟩
theorem lw_p41 : lw_okq (⟨"OilRoundModel", "isDue", "(I)Z"⟩, 45) := ⟨⟨by decide +kernel, by decide +kernel⟩, List.mem_of_getElem? (i := 670) (by decide +kernel), List.mem_of_getElem? (i := 856) (by decide +kernel), List.mem_of_getElem? (i := 857) (by decide +kernel)⟩
theorem lw_p42 : lw_okq (⟨"OilRoundModel", "canGo", "(I)I"⟩, 45) := ⟨⟨by decide +kernel, by decide +kernel⟩, List.mem_of_getElem? (i := 670) (by decide +kernel), List.mem_of_getElem? (i := 883) (by decide +kernel), List.mem_of_getElem? (i := 884) (by decide +kernel)⟩
theorem lw_p43 : lw_okq (⟨"OilRoundModel", "isSet", "(I)Z"⟩, 45) := ⟨⟨by decide +kernel, by decide +kernel⟩, List.mem_of_getElem? (i := 670) (by decide +kernel), List.mem_of_getElem? (i := 891) (by decide +kernel), List.mem_of_getElem? (i := 892) (by decide +kernel)⟩
theorem lw_p44 : lw_okq (⟨"OilRoundModel", "findWays", "()V"⟩, 45) := ⟨⟨by decide +kernel, by decide +kernel⟩, List.mem_of_getElem? (i := 670) (by decide +kernel), List.mem_of_getElem? (i := 896) (by decide +kernel), List.mem_of_getElem? (i := 897) (by decide +kernel)⟩
theorem lw_p45 : lw_okq (⟨"OilRoundModel", "fromDepot", "(I)I"⟩, 45) := ⟨⟨by decide +kernel, by decide +kernel⟩, List.mem_of_getElem? (i := 670) (by decide +kernel), List.mem_of_getElem? (i := 900) (by decide +kernel), List.mem_of_getElem? (i := 901) (by decide +kernel)⟩
theorem lw_p46 : lw_okq (⟨"OilRoundModel", "between", "(II)I"⟩, 45) := ⟨⟨by decide +kernel, by decide +kernel⟩, List.mem_of_getElem? (i := 670) (by decide +kernel), List.mem_of_getElem? (i := 907) (by decide +kernel), List.mem_of_getElem? (i := 908) (by decide +kernel)⟩
theorem lw_p47 : lw_okq (⟨"OilRoundModel", "nextOf", "(II)I"⟩, 45) := ⟨⟨by decide +kernel, by decide +kernel⟩, List.mem_of_getElem? (i := 670) (by decide +kernel), List.mem_of_getElem? (i := 911) (by decide +kernel), List.mem_of_getElem? (i := 912) (by decide +kernel)⟩
def lw_privs_3 : List (MethodName × Nat) := [(⟨"OilRound$Asks", "steadyWeight", "(LOilRound$House;)I"⟩, 2), (⟨"OilRound$Asks", "knownWeight", "(LOilRound$House;)I"⟩, 2), (⟨"OilRound$Asks", "leakyMark", "(LOilRound$House;)I"⟩, 2), (⟨"OilRound$Asks", "lentMark", "(LOilRound$House;)I"⟩, 2), (⟨"OilRound$Asks", "knownMark", "(LOilRound$House;)I"⟩, 2), (⟨"OilRoundModel", "isHouse", "(I)Z"⟩, 45), (⟨"OilRoundModel", "lowOf", "(II)I"⟩, 45), (⟨"OilRoundModel", "highOf", "(II)I"⟩, 45), (⟨"OilRoundModel", "due", "()I"⟩, 45), (⟨"OilRoundModel", "isDue", "(I)Z"⟩, 45), (⟨"OilRoundModel", "canGo", "(I)I"⟩, 45), (⟨"OilRoundModel", "isSet", "(I)Z"⟩, 45), (⟨"OilRoundModel", "findWays", "()V"⟩, 45), (⟨"OilRoundModel", "fromDepot", "(I)I"⟩, 45), (⟨"OilRoundModel", "between", "(II)I"⟩, 45), (⟨"OilRoundModel", "nextOf", "(II)I"⟩, 45)]
theorem lw_r3 : ∀ q ∈ lw_privs_3, lw_okq q := List.forall_mem_cons.mpr ⟨lw_p32, List.forall_mem_cons.mpr ⟨lw_p33, List.forall_mem_cons.mpr ⟨lw_p34, List.forall_mem_cons.mpr ⟨lw_p35, List.forall_mem_cons.mpr ⟨lw_p36, List.forall_mem_cons.mpr ⟨lw_p37, List.forall_mem_cons.mpr ⟨lw_p38, List.forall_mem_cons.mpr ⟨lw_p39, List.forall_mem_cons.mpr ⟨lw_p40, List.forall_mem_cons.mpr ⟨lw_p41, List.forall_mem_cons.mpr ⟨lw_p42, List.forall_mem_cons.mpr ⟨lw_p43, List.forall_mem_cons.mpr ⟨lw_p44, List.forall_mem_cons.mpr ⟨lw_p45, List.forall_mem_cons.mpr ⟨lw_p46, List.forall_mem_cons.mpr ⟨lw_p47, fun _ h => absurd h List.not_mem_nil⟩⟩⟩⟩⟩⟩⟩⟩⟩⟩⟩⟩⟩⟩⟩⟩
theorem lw_p48 : lw_okq (⟨"OilRoundModel", "cost", "(II)I"⟩, 45) := ⟨⟨by decide +kernel, by decide +kernel⟩, List.mem_of_getElem? (i := 670) (by decide +kernel), List.mem_of_getElem? (i := 923) (by decide +kernel), List.mem_of_getElem? (i := 924) (by decide +kernel)⟩
theorem lw_p49 : lw_okq (⟨"OilRoundModel", "makeNarrower", "(II)V"⟩, 45) := ⟨⟨by decide +kernel, by decide +kernel⟩, List.mem_of_getElem? (i := 670) (by decide +kernel), List.mem_of_getElem? (i := 930) (by decide +kernel), List.mem_of_getElem? (i := 931) (by decide +kernel)⟩
theorem lw_p50 : lw_okq (⟨"OilRoundModel", "step", "()V"⟩, 45) := ⟨⟨by decide +kernel, by decide +kernel⟩, List.mem_of_getElem? (i := 670) (by decide +kernel), List.mem_of_getElem? (i := 962) (by decide +kernel), List.mem_of_getElem? (i := 963) (by decide +kernel)⟩
theorem lw_p51 : lw_okq (⟨"OilRoundModel", "byteAt", "(I)I"⟩, 45) := ⟨⟨by decide +kernel, by decide +kernel⟩, List.mem_of_getElem? (i := 670) (by decide +kernel), List.mem_of_getElem? (i := 966) (by decide +kernel), List.mem_of_getElem? (i := 967) (by decide +kernel)⟩
theorem lw_p52 : lw_okq (⟨"OilRoundModel", "readOne", "()V"⟩, 45) := ⟨⟨by decide +kernel, by decide +kernel⟩, List.mem_of_getElem? (i := 670) (by decide +kernel), List.mem_of_getElem? (i := 976) (by decide +kernel), List.mem_of_getElem? (i := 977) (by decide +kernel)⟩
theorem lw_p53 : lw_okq (⟨"OilRoundModel", "name", "()J"⟩, 45) := ⟨⟨by decide +kernel, by decide +kernel⟩, List.mem_of_getElem? (i := 670) (by decide +kernel), List.mem_of_getElem? (i := 980) (by decide +kernel), List.mem_of_getElem? (i := 981) (by decide +kernel)⟩
theorem lw_p54 : lw_okq (⟨"OilRoundModel", "take", "(Z)V"⟩, 45) := ⟨⟨by decide +kernel, by decide +kernel⟩, List.mem_of_getElem? (i := 670) (by decide +kernel), List.mem_of_getElem? (i := 985) (by decide +kernel), List.mem_of_getElem? (i := 986) (by decide +kernel)⟩
theorem lw_p55 : lw_okq (⟨"OilRoundModel", "bad", "(I)V"⟩, 45) := ⟨⟨by decide +kernel, by decide +kernel⟩, List.mem_of_getElem? (i := 670) (by decide +kernel), List.mem_of_getElem? (i := 989) (by decide +kernel), List.mem_of_getElem? (i := 990) (by decide +kernel)⟩
theorem lw_p56 : lw_okq (⟨"OilRoundModel", "number", "()I"⟩, 45) := ⟨⟨by decide +kernel, by decide +kernel⟩, List.mem_of_getElem? (i := 670) (by decide +kernel), List.mem_of_getElem? (i := 993) (by decide +kernel), List.mem_of_getElem? (i := 994) (by decide +kernel)⟩
theorem lw_p57 : lw_okq (⟨"OilRoundModel", "is", "(I)Z"⟩, 45) := ⟨⟨by decide +kernel, by decide +kernel⟩, List.mem_of_getElem? (i := 670) (by decide +kernel), List.mem_of_getElem? (i := 1000) (by decide +kernel), List.mem_of_getElem? (i := 1001) (by decide +kernel)⟩
theorem lw_p58 : lw_okq (⟨"OilRoundModel", "kindOf", "(I)I"⟩, 45) := ⟨⟨by decide +kernel, by decide +kernel⟩, List.mem_of_getElem? (i := 670) (by decide +kernel), List.mem_of_getElem? (i := 1013) (by decide +kernel), List.mem_of_getElem? (i := 1014) (by decide +kernel)⟩
theorem lw_p59 : lw_okq (⟨"OilRoundModel", "weight", "(I)I"⟩, 45) := ⟨⟨by decide +kernel, by decide +kernel⟩, List.mem_of_getElem? (i := 670) (by decide +kernel), List.mem_of_getElem? (i := 1027) (by decide +kernel), List.mem_of_getElem? (i := 1028) (by decide +kernel)⟩
theorem lw_p60 : lw_okq (⟨"OilRoundModel", "began", "(I)V"⟩, 45) := ⟨⟨by decide +kernel, by decide +kernel⟩, List.mem_of_getElem? (i := 670) (by decide +kernel), List.mem_of_getElem? (i := 1031) (by decide +kernel), List.mem_of_getElem? (i := 1032) (by decide +kernel)⟩
theorem lw_p61 : lw_okq (⟨"OilRoundModel", "marked", "(I)I"⟩, 45) := ⟨⟨by decide +kernel, by decide +kernel⟩, List.mem_of_getElem? (i := 670) (by decide +kernel), List.mem_of_getElem? (i := 1035) (by decide +kernel), List.mem_of_getElem? (i := 1036) (by decide +kernel)⟩
def lw_privs_4 : List (MethodName × Nat) := [(⟨"OilRoundModel", "cost", "(II)I"⟩, 45), (⟨"OilRoundModel", "makeNarrower", "(II)V"⟩, 45), (⟨"OilRoundModel", "step", "()V"⟩, 45), (⟨"OilRoundModel", "byteAt", "(I)I"⟩, 45), (⟨"OilRoundModel", "readOne", "()V"⟩, 45), (⟨"OilRoundModel", "name", "()J"⟩, 45), (⟨"OilRoundModel", "take", "(Z)V"⟩, 45), (⟨"OilRoundModel", "bad", "(I)V"⟩, 45), (⟨"OilRoundModel", "number", "()I"⟩, 45), (⟨"OilRoundModel", "is", "(I)Z"⟩, 45), (⟨"OilRoundModel", "kindOf", "(I)I"⟩, 45), (⟨"OilRoundModel", "weight", "(I)I"⟩, 45), (⟨"OilRoundModel", "began", "(I)V"⟩, 45), (⟨"OilRoundModel", "marked", "(I)I"⟩, 45)]
theorem lw_r4 : ∀ q ∈ lw_privs_4, lw_okq q := List.forall_mem_cons.mpr ⟨lw_p48, List.forall_mem_cons.mpr ⟨lw_p49, List.forall_mem_cons.mpr ⟨lw_p50, List.forall_mem_cons.mpr ⟨lw_p51, List.forall_mem_cons.mpr ⟨lw_p52, List.forall_mem_cons.mpr ⟨lw_p53, List.forall_mem_cons.mpr ⟨lw_p54, List.forall_mem_cons.mpr ⟨lw_p55, List.forall_mem_cons.mpr ⟨lw_p56, List.forall_mem_cons.mpr ⟨lw_p57, List.forall_mem_cons.mpr ⟨lw_p58, List.forall_mem_cons.mpr ⟨lw_p59, List.forall_mem_cons.mpr ⟨lw_p60, List.forall_mem_cons.mpr ⟨lw_p61, fun _ h => absurd h List.not_mem_nil⟩⟩⟩⟩⟩⟩⟩⟩⟩⟩⟩⟩⟩⟩
def lw_privs : List (MethodName × Nat) := lw_privs_1 ++ (lw_privs_2 ++ (lw_privs_3 ++ (lw_privs_4)))
def lw_tbl : List Cond := k2_sels lw_privs ++ tables_1
theorem lw_privs_ok : ∀ q ∈ lw_privs, lw_okq q := by
  show ∀ q ∈ lw_privs_1 ++ (lw_privs_2 ++ (lw_privs_3 ++ (lw_privs_4))), lw_okq q
  exact List.forall_mem_append.mpr ⟨lw_r1, List.forall_mem_append.mpr ⟨lw_r2, List.forall_mem_append.mpr ⟨lw_r3, lw_r4⟩⟩⟩
-- ===== end of PART A; then your names; then what follows =====
/-! ===== BEGIN words of one list among another's, by their places ===== -/
/-! ===== END ===== -/

/-! ===== BEGIN printed: names, fields, word lists, decode rows ===== -/
def RX0 : String := "OilRound$Asks"
def TX0 : u_T := fun k => match k with
  | 0 => ("OilRound$Asks", "begun", "[I", true)
  | _ => ("OilRound$Asks", "length", "I", false)
def tyX0 : Nat → FieldType := fun k => match k with
  | 0 => .array .int
  | _ => .int
theorem nmX0 : ∀ a, a < 2 → ∀ b, b < 2 → a ≠ b → (TX0 a).2.1 ≠ (TX0 b).2.1 := by decide +kernel
theorem tyX0_ok : ∀ k, k < 2 → parseFieldDescriptor (TX0 k).2.2.1 = some (tyX0 k) := by decide +kernel
abbrev cX0_init : ByteArray := prog_2_method_1_code
def yX0_init : MethodName := ⟨RX0, "<init>", "()V"⟩
abbrev cX0_emptyTrace : ByteArray := prog_2_method_2_code
def yX0_emptyTrace : MethodName := ⟨RX0, "emptyTrace", "()V"⟩
abbrev cX0_traced : ByteArray := prog_2_method_3_code
def yX0_traced : MethodName := ⟨RX0, "traced", "(I)I"⟩
abbrev cX0_weight : ByteArray := prog_2_method_4_code
def yX0_weight : MethodName := ⟨RX0, "weight", "(LOilRound$House;)I"⟩
abbrev cX0_mark : ByteArray := prog_2_method_5_code
def yX0_mark : MethodName := ⟨RX0, "mark", "(LOilRound$House;)I"⟩
abbrev cX0_lentWeight : ByteArray := prog_2_method_6_code
def yX0_lentWeight : MethodName := ⟨RX0, "lentWeight", "(LOilRound$House;)I"⟩
abbrev cX0_knownWeight : ByteArray := prog_2_method_7_code
def yX0_knownWeight : MethodName := ⟨RX0, "knownWeight", "(LOilRound$House;)I"⟩
abbrev cX0_steadyWeight : ByteArray := prog_2_method_8_code
def yX0_steadyWeight : MethodName := ⟨RX0, "steadyWeight", "(LOilRound$House;)I"⟩
abbrev cX0_leakyWeight : ByteArray := prog_2_method_9_code
def yX0_leakyWeight : MethodName := ⟨RX0, "leakyWeight", "(LOilRound$House;)I"⟩
abbrev cX0_lentMark : ByteArray := prog_2_method_10_code
def yX0_lentMark : MethodName := ⟨RX0, "lentMark", "(LOilRound$House;)I"⟩
abbrev cX0_knownMark : ByteArray := prog_2_method_11_code
def yX0_knownMark : MethodName := ⟨RX0, "knownMark", "(LOilRound$House;)I"⟩
abbrev cX0_leakyMark : ByteArray := prog_2_method_12_code
def yX0_leakyMark : MethodName := ⟨RX0, "leakyMark", "(LOilRound$House;)I"⟩
abbrev cX0_begin : ByteArray := prog_2_method_13_code
def yX0_begin : MethodName := ⟨RX0, "begin", "(I)V"⟩
def RX1 : String := "OilRound$House"
def TX1 : u_T := fun k => match k with
  | 0 => ("OilRound$House", "x", "I", true)
  | 1 => ("OilRound$House", "y", "I", true)
  | 2 => ("OilRound$House", "holds", "I", true)
  | 3 => ("OilRound$House", "plan", "LOilRound$Plan;", true)
  | 4 => ("OilRound$House", "a", "I", false)
  | 5 => ("OilRound$House", "b", "I", false)
  | 6 => ("OilRound$House", "c", "I", false)
  | 7 => ("OilRound$House", "d", "I", false)
  | 8 => ("OilRound$House", "up", "I", false)
  | 9 => ("OilRound$House", "down", "I", false)
  | 10 => ("OilRound$House", "fills", "I", false)
  | 11 => ("OilRound$House", "note", "I", false)
  | 12 => ("OilRound$House", "everNoted", "Z", false)
  | 13 => ("OilRound$House", "daysSince", "I", false)
  | _ => ("OilRound$House", "coldSince", "I", false)
def tyX1 : Nat → FieldType := fun k => match k with
  | 0 => .int
  | 1 => .int
  | 2 => .int
  | 3 => .object "OilRound$Plan"
  | 4 => .int
  | 5 => .int
  | 6 => .int
  | 7 => .int
  | 8 => .int
  | 9 => .int
  | 10 => .int
  | 11 => .int
  | 12 => .boolean
  | 13 => .int
  | _ => .int
theorem nmX1 : ∀ a, a < 15 → ∀ b, b < 15 → a ≠ b → (TX1 a).2.1 ≠ (TX1 b).2.1 := by decide +kernel
theorem tyX1_ok : ∀ k, k < 15 → parseFieldDescriptor (TX1 k).2.2.1 = some (tyX1 k) := by decide +kernel
abbrev cX1_init : ByteArray := prog_3_method_1_code
def yX1_init : MethodName := ⟨RX1, "<init>", "(III)V"⟩
abbrev cX1_low : ByteArray := prog_3_method_2_code
def yX1_low : MethodName := ⟨RX1, "low", "(I)I"⟩
abbrev cX1_high : ByteArray := prog_3_method_3_code
def yX1_high : MethodName := ⟨RX1, "high", "(I)I"⟩
abbrev cX1_endDay : ByteArray := prog_3_method_4_code
def yX1_endDay : MethodName := ⟨RX1, "endDay", "(I)V"⟩
abbrev cX1_isSafe : ByteArray := prog_3_method_5_code
def yX1_isSafe : MethodName := ⟨RX1, "isSafe", "()Z"⟩
abbrev cX1_isDue : ByteArray := prog_3_method_6_code
def yX1_isDue : MethodName := ⟨RX1, "isDue", "(II)Z"⟩
abbrev cX1_daysToGo : ByteArray := prog_3_method_7_code
def yX1_daysToGo : MethodName := ⟨RX1, "daysToGo", "(I)I"⟩
abbrev cX1_daysAboveZero : ByteArray := prog_3_method_8_code
def yX1_daysAboveZero : MethodName := ⟨RX1, "daysAboveZero", "(I)I"⟩
abbrev cX1_mayNeed : ByteArray := prog_3_method_9_code
def yX1_mayNeed : MethodName := ⟨RX1, "mayNeed", "()I"⟩
abbrev cX1_takeFill : ByteArray := prog_3_method_10_code
def yX1_takeFill : MethodName := ⟨RX1, "takeFill", "(I)V"⟩
abbrev cX1_noteOf : ByteArray := prog_3_method_11_code
def yX1_noteOf : MethodName := ⟨RX1, "noteOf", "(I)I"⟩
abbrev cX1_narrow : ByteArray := prog_3_method_12_code
def yX1_narrow : MethodName := ⟨RX1, "narrow", "(I)V"⟩
abbrev cX1_cut : ByteArray := prog_3_method_13_code
def yX1_cut : MethodName := ⟨RX1, "cut", "(II)I"⟩
abbrev cX1_roundedUp : ByteArray := prog_3_method_14_code
def yX1_roundedUp : MethodName := ⟨RX1, "roundedUp", "(II)I"⟩
abbrev cX1_isOf : ByteArray := prog_3_method_15_code
def yX1_isOf : MethodName := ⟨RX1, "isOf", "(I)Z"⟩
abbrev cX1_toldKind : ByteArray := prog_3_method_16_code
def yX1_toldKind : MethodName := ⟨RX1, "toldKind", "()I"⟩
abbrev cX1_isLeaky : ByteArray := prog_3_method_17_code
def yX1_isLeaky : MethodName := ⟨RX1, "isLeaky", "()Z"⟩
abbrev cX1_isSteady : ByteArray := prog_3_method_18_code
def yX1_isSteady : MethodName := ⟨RX1, "isSteady", "()Z"⟩
abbrev cX1_isKnown : ByteArray := prog_3_method_19_code
def yX1_isKnown : MethodName := ⟨RX1, "isKnown", "()Z"⟩
def RX2 : String := "OilRound$Plan"
def TX2 : u_T := fun k => match k with
  | 0 => ("OilRound$Plan", "way", "I", false)
  | 1 => ("OilRound$Plan", "litres", "I", false)
  | _ => ("OilRound$Plan", "ownPrice", "I", false)
def tyX2 : Nat → FieldType := fun k => match k with
  | 0 => .int
  | 1 => .int
  | _ => .int
theorem nmX2 : ∀ a, a < 3 → ∀ b, b < 3 → a ≠ b → (TX2 a).2.1 ≠ (TX2 b).2.1 := by decide +kernel
theorem tyX2_ok : ∀ k, k < 3 → parseFieldDescriptor (TX2 k).2.2.1 = some (tyX2 k) := by decide +kernel
abbrev cX2_init : ByteArray := prog_4_method_1_code
def yX2_init : MethodName := ⟨RX2, "<init>", "()V"⟩
abbrev cX2_become : ByteArray := prog_4_method_2_code
def yX2_become : MethodName := ⟨RX2, "become", "(III)V"⟩
abbrev cX2_costOf : ByteArray := prog_4_method_3_code
def yX2_costOf : MethodName := ⟨RX2, "costOf", "(II)I"⟩
abbrev cX2_useUp : ByteArray := prog_4_method_4_code
def yX2_useUp : MethodName := ⟨RX2, "useUp", "(I)V"⟩
abbrev cX2_ahead : ByteArray := prog_4_method_5_code
def yX2_ahead : MethodName := ⟨RX2, "ahead", "(I)I"⟩
def RX3 : String := "OilRound$PlanText"
def TX3 : u_T := fun k => match k with
  | 0 => ("OilRound$PlanText", "bytes", "[B", true)
  | 1 => ("OilRound$PlanText", "size", "I", false)
  | 2 => ("OilRound$PlanText", "latestFault", "I", false)
  | 3 => ("OilRound$PlanText", "next", "I", false)
  | 4 => ("OilRound$PlanText", "token", "I", false)
  | 5 => ("OilRound$PlanText", "start", "I", false)
  | 6 => ("OilRound$PlanText", "number", "I", false)
  | 7 => ("OilRound$PlanText", "state", "I", false)
  | 8 => ("OilRound$PlanText", "toldHouse", "LOilRound$House;", false)
  | 9 => ("OilRound$PlanText", "way", "I", false)
  | 10 => ("OilRound$PlanText", "litres", "I", false)
  | _ => ("OilRound$PlanText", "ownPrice", "I", false)
def tyX3 : Nat → FieldType := fun k => match k with
  | 0 => .array .byte
  | 1 => .int
  | 2 => .int
  | 3 => .int
  | 4 => .int
  | 5 => .int
  | 6 => .int
  | 7 => .int
  | 8 => .object "OilRound$House"
  | 9 => .int
  | 10 => .int
  | _ => .int
theorem nmX3 : ∀ a, a < 12 → ∀ b, b < 12 → a ≠ b → (TX3 a).2.1 ≠ (TX3 b).2.1 := by decide +kernel
theorem tyX3_ok : ∀ k, k < 12 → parseFieldDescriptor (TX3 k).2.2.1 = some (tyX3 k) := by decide +kernel
abbrev cX3_init : ByteArray := prog_5_method_1_code
def yX3_init : MethodName := ⟨RX3, "<init>", "()V"⟩
abbrev cX3_append : ByteArray := prog_5_method_2_code
def yX3_append : MethodName := ⟨RX3, "append", "(JI)I"⟩
abbrev cX3_readAll : ByteArray := prog_5_method_3_code
def yX3_readAll : MethodName := ⟨RX3, "readAll", "([LOilRound$House;)I"⟩
abbrev cX3_readOnce : ByteArray := prog_5_method_4_code
def yX3_readOnce : MethodName := ⟨RX3, "readOnce", "([LOilRound$House;Z)I"⟩
abbrev cX3_takeToken : ByteArray := prog_5_method_5_code
def yX3_takeToken : MethodName := ⟨RX3, "takeToken", "([LOilRound$House;)I"⟩
abbrev cX3_canStandHere : ByteArray := prog_5_method_6_code
def yX3_canStandHere : MethodName := ⟨RX3, "canStandHere", "()Z"⟩
abbrev cX3_takeWay : ByteArray := prog_5_method_7_code
def yX3_takeWay : MethodName := ⟨RX3, "takeWay", "()V"⟩
abbrev cX3_readToken : ByteArray := prog_5_method_8_code
def yX3_readToken : MethodName := ⟨RX3, "readToken", "()V"⟩
abbrev cX3_nameToken : ByteArray := prog_5_method_9_code
def yX3_nameToken : MethodName := ⟨RX3, "nameToken", "()I"⟩
abbrev cX3_isName : ByteArray := prog_5_method_10_code
def yX3_isName : MethodName := ⟨RX3, "isName", "(Ljava/lang/String;)Z"⟩
abbrev cX3_numberToken : ByteArray := prog_5_method_11_code
def yX3_numberToken : MethodName := ⟨RX3, "numberToken", "()I"⟩
abbrev cX3_isLetter : ByteArray := prog_5_method_12_code
def yX3_isLetter : MethodName := ⟨RX3, "isLetter", "(I)Z"⟩
abbrev cX3_isFigure : ByteArray := prog_5_method_13_code
def yX3_isFigure : MethodName := ⟨RX3, "isFigure", "(I)Z"⟩
abbrev cX3_byteAt : ByteArray := prog_5_method_14_code
def yX3_byteAt : MethodName := ⟨RX3, "byteAt", "(I)I"⟩
def RX4 : String := "OilRound$Route"
def TX4 : u_T := fun k => match k with
  | 0 => ("OilRound$Route", "numbers", "[I", true)
  | 1 => ("OilRound$Route", "xs", "[I", true)
  | 2 => ("OilRound$Route", "ys", "[I", true)
  | 3 => ("OilRound$Route", "order", "[I", true)
  | 4 => ("OilRound$Route", "least", "[I", true)
  | 5 => ("OilRound$Route", "keptSet", "I", false)
  | _ => ("OilRound$Route", "size", "I", false)
def tyX4 : Nat → FieldType := fun k => match k with
  | 0 => .array .int
  | 1 => .array .int
  | 2 => .array .int
  | 3 => .array .int
  | 4 => .array .int
  | 5 => .int
  | _ => .int
theorem nmX4 : ∀ a, a < 7 → ∀ b, b < 7 → a ≠ b → (TX4 a).2.1 ≠ (TX4 b).2.1 := by decide +kernel
theorem tyX4_ok : ∀ k, k < 7 → parseFieldDescriptor (TX4 k).2.2.1 = some (tyX4 k) := by decide +kernel
abbrev cX4_init : ByteArray := prog_6_method_1_code
def yX4_init : MethodName := ⟨RX4, "<init>", "()V"⟩
abbrev cX4_way : ByteArray := prog_6_method_2_code
def yX4_way : MethodName := ⟨RX4, "way", "()I"⟩
abbrev cX4_houseOn : ByteArray := prog_6_method_3_code
def yX4_houseOn : MethodName := ⟨RX4, "houseOn", "(I)I"⟩
abbrev cX4_prepare : ByteArray := prog_6_method_4_code
def yX4_prepare : MethodName := ⟨RX4, "prepare", "(I[LOilRound$House;)V"⟩
abbrev cX4_gather : ByteArray := prog_6_method_5_code
def yX4_gather : MethodName := ⟨RX4, "gather", "(I[LOilRound$House;)V"⟩
abbrev cX4_measure : ByteArray := prog_6_method_6_code
def yX4_measure : MethodName := ⟨RX4, "measure", "(II)V"⟩
abbrev cX4_arrange : ByteArray := prog_6_method_7_code
def yX4_arrange : MethodName := ⟨RX4, "arrange", "()V"⟩
abbrev cX4_firstNext : ByteArray := prog_6_method_8_code
def yX4_firstNext : MethodName := ⟨RX4, "firstNext", "(II)I"⟩
abbrev cX4_wayBy : ByteArray := prog_6_method_9_code
def yX4_wayBy : MethodName := ⟨RX4, "wayBy", "(III)I"⟩
abbrev cX4_leastAt : ByteArray := prog_6_method_10_code
def yX4_leastAt : MethodName := ⟨RX4, "leastAt", "(II)I"⟩
abbrev cX4_between : ByteArray := prog_6_method_11_code
def yX4_between : MethodName := ⟨RX4, "between", "(II)I"⟩
def RX5 : String := "OilRound"
def TX5 : u_T := fun k => match k with
  | 0 => ("OilRound", "houses", "[LOilRound$House;", true)
  | 1 => ("OilRound", "route", "LOilRound$Route;", true)
  | 2 => ("OilRound", "text", "LOilRound$PlanText;", true)
  | 3 => ("OilRound", "asks", "LOilRound$Asks;", true)
  | 4 => ("OilRound", "houseCount", "I", false)
  | 5 => ("OilRound", "daysGone", "I", false)
  | 6 => ("OilRound", "lookDays", "I", false)
  | 7 => ("OilRound", "lookCold", "I", false)
  | 8 => ("OilRound", "lorryHolds", "I", false)
  | 9 => ("OilRound", "dayPrice", "I", false)
  | 10 => ("OilRound", "inDepot", "I", false)
  | 11 => ("OilRound", "litresCome", "J", false)
  | 12 => ("OilRound", "litresFilled", "J", false)
  | _ => ("OilRound", "allPaid", "J", false)
def tyX5 : Nat → FieldType := fun k => match k with
  | 0 => .array (.object "OilRound$House")
  | 1 => .object "OilRound$Route"
  | 2 => .object "OilRound$PlanText"
  | 3 => .object "OilRound$Asks"
  | 4 => .int
  | 5 => .int
  | 6 => .int
  | 7 => .int
  | 8 => .int
  | 9 => .int
  | 10 => .int
  | 11 => .long
  | 12 => .long
  | _ => .long
theorem nmX5 : ∀ a, a < 14 → ∀ b, b < 14 → a ≠ b → (TX5 a).2.1 ≠ (TX5 b).2.1 := by decide +kernel
theorem tyX5_ok : ∀ k, k < 14 → parseFieldDescriptor (TX5 k).2.2.1 = some (tyX5 k) := by decide +kernel
abbrev cX5_init : ByteArray := prog_1_method_1_code
def yX5_init : MethodName := ⟨RX5, "<init>", "()V"⟩
abbrev cX5_house : ByteArray := prog_1_method_2_code
def yX5_house : MethodName := ⟨RX5, "house", "(III)I"⟩
abbrev cX5_prior : ByteArray := prog_1_method_3_code
def yX5_prior : MethodName := ⟨RX5, "prior", "(IIIII)I"⟩
abbrev cX5_day : ByteArray := prog_1_method_4_code
def yX5_day : MethodName := ⟨RX5, "day", "(I)I"⟩
abbrev cX5_look : ByteArray := prog_1_method_5_code
def yX5_look : MethodName := ⟨RX5, "look", "(II)I"⟩
abbrev cX5_told : ByteArray := prog_1_method_6_code
def yX5_told : MethodName := ⟨RX5, "told", "(II)I"⟩
abbrev cX5_lasts : ByteArray := prog_1_method_7_code
def yX5_lasts : MethodName := ⟨RX5, "lasts", "(II)I"⟩
abbrev cX5_stock : ByteArray := prog_1_method_8_code
def yX5_stock : MethodName := ⟨RX5, "stock", "(I)I"⟩
abbrev cX5_lorry : ByteArray := prog_1_method_9_code
def yX5_lorry : MethodName := ⟨RX5, "lorry", "(I)I"⟩
abbrev cX5_calls : ByteArray := prog_1_method_10_code
def yX5_calls : MethodName := ⟨RX5, "calls", "()I"⟩
abbrev cX5_round : ByteArray := prog_1_method_11_code
def yX5_round : MethodName := ⟨RX5, "round", "(II)I"⟩
abbrev cX5_stop : ByteArray := prog_1_method_12_code
def yX5_stop : MethodName := ⟨RX5, "stop", "(II)I"⟩
abbrev cX5_fill : ByteArray := prog_1_method_13_code
def yX5_fill : MethodName := ⟨RX5, "fill", "(II)I"⟩
abbrev cX5_price : ByteArray := prog_1_method_14_code
def yX5_price : MethodName := ⟨RX5, "price", "(I)I"⟩
abbrev cX5_feed : ByteArray := prog_1_method_15_code
def yX5_feed : MethodName := ⟨RX5, "feed", "(JI)I"⟩
abbrev cX5_plans : ByteArray := prog_1_method_16_code
def yX5_plans : MethodName := ⟨RX5, "plans", "()I"⟩
abbrev cX5_fault : ByteArray := prog_1_method_17_code
def yX5_fault : MethodName := ⟨RX5, "fault", "()I"⟩
abbrev cX5_quote : ByteArray := prog_1_method_18_code
def yX5_quote : MethodName := ⟨RX5, "quote", "(II)I"⟩
abbrev cX5_kind : ByteArray := prog_1_method_19_code
def yX5_kind : MethodName := ⟨RX5, "kind", "(I)I"⟩
abbrev cX5_as : ByteArray := prog_1_method_20_code
def yX5_as : MethodName := ⟨RX5, "as", "(II)I"⟩
abbrev cX5_ask : ByteArray := prog_1_method_21_code
def yX5_ask : MethodName := ⟨RX5, "ask", "(II)I"⟩
abbrev cX5_trace : ByteArray := prog_1_method_22_code
def yX5_trace : MethodName := ⟨RX5, "trace", "(I)I"⟩
abbrev cX5_count : ByteArray := prog_1_method_23_code
def yX5_count : MethodName := ⟨RX5, "count", "(I)J"⟩
abbrev cX5_isOutside : ByteArray := prog_1_method_24_code
def yX5_isOutside : MethodName := ⟨RX5, "isOutside", "(III)Z"⟩
abbrev cX5_houseIn : ByteArray := prog_1_method_25_code
def yX5_houseIn : MethodName := ⟨RX5, "houseIn", "([LOilRound$House;I)LOilRound$House;"⟩
abbrev cX5_houseAt : ByteArray := prog_1_method_26_code
def yX5_houseAt : MethodName := ⟨RX5, "houseAt", "(I)LOilRound$House;"⟩
abbrev cX5_countDue : ByteArray := prog_1_method_27_code
def yX5_countDue : MethodName := ⟨RX5, "countDue", "()I"⟩
abbrev cX5_mostUrgent : ByteArray := prog_1_method_28_code
def yX5_mostUrgent : MethodName := ⟨RX5, "mostUrgent", "(I)I"⟩
abbrev cX5_isNoRound : ByteArray := prog_1_method_29_code
def yX5_isNoRound : MethodName := ⟨RX5, "isNoRound", "(I)Z"⟩
abbrev cX5_needOf : ByteArray := prog_1_method_30_code
def yX5_needOf : MethodName := ⟨RX5, "needOf", "(I)I"⟩
def RX6 : String := "OilRoundModel"
def TX6 : u_T := fun k => match k with
  | 0 => ("OilRoundModel", "thrown", "I", false)
  | 1 => ("OilRoundModel", "houses", "I", false)
  | 2 => ("OilRoundModel", "px", "[I", true)
  | 3 => ("OilRoundModel", "py", "[I", true)
  | 4 => ("OilRoundModel", "holds", "[I", true)
  | 5 => ("OilRoundModel", "prior", "[I", true)
  | 6 => ("OilRoundModel", "up", "[I", true)
  | 7 => ("OilRoundModel", "down", "[I", true)
  | 8 => ("OilRoundModel", "fills", "[I", true)
  | 9 => ("OilRoundModel", "noted", "[I", true)
  | 10 => ("OilRoundModel", "wasNoted", "[Z", true)
  | 11 => ("OilRoundModel", "days", "[I", true)
  | 12 => ("OilRoundModel", "colds", "[I", true)
  | 13 => ("OilRoundModel", "plan", "[I", true)
  | 14 => ("OilRoundModel", "planMany", "[I", true)
  | 15 => ("OilRoundModel", "planPrice", "[I", true)
  | 16 => ("OilRoundModel", "day", "I", false)
  | 17 => ("OilRoundModel", "ahead", "I", false)
  | 18 => ("OilRoundModel", "aheadCold", "I", false)
  | 19 => ("OilRoundModel", "stock", "I", false)
  | 20 => ("OilRoundModel", "lorry", "I", false)
  | 21 => ("OilRoundModel", "price", "I", false)
  | 22 => ("OilRoundModel", "came", "J", false)
  | 23 => ("OilRoundModel", "filled", "J", false)
  | 24 => ("OilRoundModel", "paid", "J", false)
  | 25 => ("OilRoundModel", "own", "[I", true)
  | 26 => ("OilRoundModel", "many", "I", false)
  | 27 => ("OilRoundModel", "least", "[I", true)
  | 28 => ("OilRoundModel", "tape", "[I", true)
  | 29 => ("OilRoundModel", "taped", "I", false)
  | 30 => ("OilRoundModel", "latest", "I", false)
  | 31 => ("OilRoundModel", "sizeOf", "I", false)
  | 32 => ("OilRoundModel", "at", "I", false)
  | 33 => ("OilRoundModel", "sort", "I", false)
  | 34 => ("OilRoundModel", "place", "I", false)
  | 35 => ("OilRoundModel", "end", "I", false)
  | 36 => ("OilRoundModel", "fault", "I", false)
  | 37 => ("OilRoundModel", "faultAt", "I", false)
  | 38 => ("OilRoundModel", "told", "I", false)
  | 39 => ("OilRoundModel", "toldHouse", "[I", true)
  | 40 => ("OilRoundModel", "toldPlan", "[I", true)
  | 41 => ("OilRoundModel", "toldMany", "[I", true)
  | 42 => ("OilRoundModel", "toldPrice", "[I", true)
  | 43 => ("OilRoundModel", "trace", "[I", true)
  | _ => ("OilRoundModel", "traced", "I", false)
def tyX6 : Nat → FieldType := fun k => match k with
  | 0 => .int
  | 1 => .int
  | 2 => .array .int
  | 3 => .array .int
  | 4 => .array .int
  | 5 => .array .int
  | 6 => .array .int
  | 7 => .array .int
  | 8 => .array .int
  | 9 => .array .int
  | 10 => .array .boolean
  | 11 => .array .int
  | 12 => .array .int
  | 13 => .array .int
  | 14 => .array .int
  | 15 => .array .int
  | 16 => .int
  | 17 => .int
  | 18 => .int
  | 19 => .int
  | 20 => .int
  | 21 => .int
  | 22 => .long
  | 23 => .long
  | 24 => .long
  | 25 => .array .int
  | 26 => .int
  | 27 => .array .int
  | 28 => .array .int
  | 29 => .int
  | 30 => .int
  | 31 => .int
  | 32 => .int
  | 33 => .int
  | 34 => .int
  | 35 => .int
  | 36 => .int
  | 37 => .int
  | 38 => .int
  | 39 => .array .int
  | 40 => .array .int
  | 41 => .array .int
  | 42 => .array .int
  | 43 => .array .int
  | _ => .int
theorem nmX6 : ∀ a, a < 45 → ∀ b, b < 45 → a ≠ b → (TX6 a).2.1 ≠ (TX6 b).2.1 := by decide +kernel
theorem tyX6_ok : ∀ k, k < 45 → parseFieldDescriptor (TX6 k).2.2.1 = some (tyX6 k) := by decide +kernel
abbrev cX6_init : ByteArray := prog_8_method_1_code
def yX6_init : MethodName := ⟨RX6, "<init>", "()V"⟩
abbrev cX6_in : ByteArray := prog_8_method_3_code
def yX6_in : MethodName := ⟨RX6, "in", "(JJJ)Z"⟩
abbrev cX6_isHouse : ByteArray := prog_8_method_4_code
def yX6_isHouse : MethodName := ⟨RX6, "isHouse", "(I)Z"⟩
abbrev cX6_house : ByteArray := prog_8_method_5_code
def yX6_house : MethodName := ⟨RX6, "house", "(III)I"⟩
abbrev cX6_prior : ByteArray := prog_8_method_6_code
def yX6_prior : MethodName := ⟨RX6, "prior", "(IIIII)I"⟩
abbrev cX6_lowOf : ByteArray := prog_8_method_7_code
def yX6_lowOf : MethodName := ⟨RX6, "lowOf", "(II)I"⟩
abbrev cX6_highOf : ByteArray := prog_8_method_8_code
def yX6_highOf : MethodName := ⟨RX6, "highOf", "(II)I"⟩
abbrev cX6_day : ByteArray := prog_8_method_9_code
def yX6_day : MethodName := ⟨RX6, "day", "(I)I"⟩
abbrev cX6_isDue : ByteArray := prog_8_method_10_code
def yX6_isDue : MethodName := ⟨RX6, "isDue", "(I)Z"⟩
abbrev cX6_due : ByteArray := prog_8_method_11_code
def yX6_due : MethodName := ⟨RX6, "due", "()I"⟩
abbrev cX6_look : ByteArray := prog_8_method_12_code
def yX6_look : MethodName := ⟨RX6, "look", "(II)I"⟩
abbrev cX6_told : ByteArray := prog_8_method_13_code
def yX6_told : MethodName := ⟨RX6, "told", "(II)I"⟩
abbrev cX6_lasts : ByteArray := prog_8_method_14_code
def yX6_lasts : MethodName := ⟨RX6, "lasts", "(II)I"⟩
abbrev cX6_stock : ByteArray := prog_8_method_15_code
def yX6_stock : MethodName := ⟨RX6, "stock", "(I)I"⟩
abbrev cX6_lorry : ByteArray := prog_8_method_16_code
def yX6_lorry : MethodName := ⟨RX6, "lorry", "(I)I"⟩
abbrev cX6_canGo : ByteArray := prog_8_method_17_code
def yX6_canGo : MethodName := ⟨RX6, "canGo", "(I)I"⟩
abbrev cX6_calls : ByteArray := prog_8_method_18_code
def yX6_calls : MethodName := ⟨RX6, "calls", "()I"⟩
abbrev cX6_isSet : ByteArray := prog_8_method_19_code
def yX6_isSet : MethodName := ⟨RX6, "isSet", "(I)Z"⟩
abbrev cX6_size : ByteArray := prog_8_method_20_code
def yX6_size : MethodName := ⟨RX6, "size", "(I)I"⟩
abbrev cX6_fromDepot : ByteArray := prog_8_method_21_code
def yX6_fromDepot : MethodName := ⟨RX6, "fromDepot", "(I)I"⟩
abbrev cX6_between : ByteArray := prog_8_method_22_code
def yX6_between : MethodName := ⟨RX6, "between", "(II)I"⟩
abbrev cX6_findWays : ByteArray := prog_8_method_23_code
def yX6_findWays : MethodName := ⟨RX6, "findWays", "()V"⟩
abbrev cX6_nextOf : ByteArray := prog_8_method_24_code
def yX6_nextOf : MethodName := ⟨RX6, "nextOf", "(II)I"⟩
abbrev cX6_round : ByteArray := prog_8_method_25_code
def yX6_round : MethodName := ⟨RX6, "round", "(II)I"⟩
abbrev cX6_stop : ByteArray := prog_8_method_26_code
def yX6_stop : MethodName := ⟨RX6, "stop", "(II)I"⟩
abbrev cX6_most : ByteArray := prog_8_method_27_code
def yX6_most : MethodName := ⟨RX6, "most", "(II)I"⟩
abbrev cX6_least : ByteArray := prog_8_method_28_code
def yX6_least : MethodName := ⟨RX6, "least", "(II)I"⟩
abbrev cX6_roundedUp : ByteArray := prog_8_method_29_code
def yX6_roundedUp : MethodName := ⟨RX6, "roundedUp", "(II)I"⟩
abbrev cX6_cut : ByteArray := prog_8_method_30_code
def yX6_cut : MethodName := ⟨RX6, "cut", "(II)I"⟩
abbrev cX6_makeNarrower : ByteArray := prog_8_method_31_code
def yX6_makeNarrower : MethodName := ⟨RX6, "makeNarrower", "(II)V"⟩
abbrev cX6_cost : ByteArray := prog_8_method_32_code
def yX6_cost : MethodName := ⟨RX6, "cost", "(II)I"⟩
abbrev cX6_fill : ByteArray := prog_8_method_33_code
def yX6_fill : MethodName := ⟨RX6, "fill", "(II)I"⟩
abbrev cX6_price : ByteArray := prog_8_method_34_code
def yX6_price : MethodName := ⟨RX6, "price", "(I)I"⟩
abbrev cX6_quote : ByteArray := prog_8_method_35_code
def yX6_quote : MethodName := ⟨RX6, "quote", "(II)I"⟩
abbrev cX6_feed : ByteArray := prog_8_method_36_code
def yX6_feed : MethodName := ⟨RX6, "feed", "(JI)I"⟩
abbrev cX6_byteAt : ByteArray := prog_8_method_37_code
def yX6_byteAt : MethodName := ⟨RX6, "byteAt", "(I)I"⟩
abbrev cX6_isLetter : ByteArray := prog_8_method_38_code
def yX6_isLetter : MethodName := ⟨RX6, "isLetter", "(I)Z"⟩
abbrev cX6_isFigure : ByteArray := prog_8_method_39_code
def yX6_isFigure : MethodName := ⟨RX6, "isFigure", "(I)Z"⟩
abbrev cX6_step : ByteArray := prog_8_method_40_code
def yX6_step : MethodName := ⟨RX6, "step", "()V"⟩
abbrev cX6_bad : ByteArray := prog_8_method_41_code
def yX6_bad : MethodName := ⟨RX6, "bad", "(I)V"⟩
abbrev cX6_take : ByteArray := prog_8_method_42_code
def yX6_take : MethodName := ⟨RX6, "take", "(Z)V"⟩
abbrev cX6_is : ByteArray := prog_8_method_43_code
def yX6_is : MethodName := ⟨RX6, "is", "(I)Z"⟩
abbrev cX6_name : ByteArray := prog_8_method_44_code
def yX6_name : MethodName := ⟨RX6, "name", "()J"⟩
abbrev cX6_number : ByteArray := prog_8_method_45_code
def yX6_number : MethodName := ⟨RX6, "number", "()I"⟩
abbrev cX6_readOne : ByteArray := prog_8_method_46_code
def yX6_readOne : MethodName := ⟨RX6, "readOne", "()V"⟩
abbrev cX6_plans : ByteArray := prog_8_method_47_code
def yX6_plans : MethodName := ⟨RX6, "plans", "()I"⟩
abbrev cX6_fault : ByteArray := prog_8_method_48_code
def yX6_fault : MethodName := ⟨RX6, "fault", "()I"⟩
abbrev cX6_kindOf : ByteArray := prog_8_method_49_code
def yX6_kindOf : MethodName := ⟨RX6, "kindOf", "(I)I"⟩
abbrev cX6_kind : ByteArray := prog_8_method_50_code
def yX6_kind : MethodName := ⟨RX6, "kind", "(I)I"⟩
abbrev cX6_as : ByteArray := prog_8_method_51_code
def yX6_as : MethodName := ⟨RX6, "as", "(II)I"⟩
abbrev cX6_began : ByteArray := prog_8_method_52_code
def yX6_began : MethodName := ⟨RX6, "began", "(I)V"⟩
abbrev cX6_weight : ByteArray := prog_8_method_53_code
def yX6_weight : MethodName := ⟨RX6, "weight", "(I)I"⟩
abbrev cX6_marked : ByteArray := prog_8_method_54_code
def yX6_marked : MethodName := ⟨RX6, "marked", "(I)I"⟩
abbrev cX6_ask : ByteArray := prog_8_method_55_code
def yX6_ask : MethodName := ⟨RX6, "ask", "(II)I"⟩
abbrev cX6_trace : ByteArray := prog_8_method_56_code
def yX6_trace : MethodName := ⟨RX6, "trace", "(I)I"⟩
abbrev cX6_count : ByteArray := prog_8_method_57_code
def yX6_count : MethodName := ⟨RX6, "count", "(I)J"⟩
def RJ6 : String := "java/lang/Integer"
def TJ6 : u_T := fun k => match k with
  | _ => ("", "", "", false)
def tyJ6 : Nat → FieldType := fun k => match k with
  | _ => .int
theorem nmJ6 : ∀ a, a < 0 → ∀ b, b < 0 → a ≠ b → (TJ6 a).2.1 ≠ (TJ6 b).2.1 := by decide +kernel
theorem tyJ6_ok : ∀ k, k < 0 → parseFieldDescriptor (TJ6 k).2.2.1 = some (tyJ6 k) := by decide +kernel
abbrev cJ6_bitCount_0f7a4 : ByteArray := prog_9_method_49_code
def yJ6_bitCount_0f7a4 : MethodName := ⟨RJ6, "bitCount", "(I)I"⟩
def RJ9 : String := "java/lang/Math"
def TJ9 : u_T := fun k => match k with
  | _ => ("", "", "", false)
def tyJ9 : Nat → FieldType := fun k => match k with
  | _ => .int
theorem nmJ9 : ∀ a, a < 0 → ∀ b, b < 0 → a ≠ b → (TJ9 a).2.1 ≠ (TJ9 b).2.1 := by decide +kernel
theorem tyJ9_ok : ∀ k, k < 0 → parseFieldDescriptor (TJ9 k).2.2.1 = some (tyJ9 k) := by decide +kernel
abbrev cJ9_floorDiv_7cf53 : ByteArray := prog_10_method_47_code
def yJ9_floorDiv_7cf53 : MethodName := ⟨RJ9, "floorDiv", "(II)I"⟩
abbrev cJ9_abs_0f7a4 : ByteArray := prog_10_method_59_code
def yJ9_abs_0f7a4 : MethodName := ⟨RJ9, "abs", "(I)I"⟩
abbrev cJ9_max_7cf53 : ByteArray := prog_10_method_65_code
def yJ9_max_7cf53 : MethodName := ⟨RJ9, "max", "(II)I"⟩
abbrev cJ9_min_7cf53 : ByteArray := prog_10_method_69_code
def yJ9_min_7cf53 : MethodName := ⟨RJ9, "min", "(II)I"⟩
def RJ0 : String := "java/lang/String"
def TJ0 : u_T := fun k => match k with
  | _ => ("", "", "", false)
def tyJ0 : Nat → FieldType := fun k => match k with
  | _ => .int
theorem nmJ0 : ∀ a, a < 0 → ∀ b, b < 0 → a ≠ b → (TJ0 a).2.1 ≠ (TJ0 b).2.1 := by decide +kernel
theorem tyJ0_ok : ∀ k, k < 0 → parseFieldDescriptor (TJ0 k).2.2.1 = some (tyJ0 k) := by decide +kernel
abbrev cJ0_length_8abf5 : ByteArray := prog_11_method_54_code
def yJ0_length_8abf5 : MethodName := ⟨RJ0, "length", "()I"⟩
abbrev cJ0_charAt_5068e : ByteArray := prog_11_method_56_code
def yJ0_charAt_5068e : MethodName := ⟨RJ0, "charAt", "(I)C"⟩
abbrev cJ0_coder_7d493 : ByteArray := prog_11_method_152_code
def yJ0_coder_7d493 : MethodName := ⟨RJ0, "coder", "()B"⟩
abbrev cJ0_isLatin1_aae02 : ByteArray := prog_11_method_154_code
def yJ0_isLatin1_aae02 : MethodName := ⟨RJ0, "isLatin1", "()Z"⟩
abbrev cJ0_checkIndex_df160 : ByteArray := prog_11_method_155_code
def yJ0_checkIndex_df160 : MethodName := ⟨RJ0, "checkIndex", "(II)V"⟩
def RJ1 : String := "java/lang/StringLatin1"
def TJ1 : u_T := fun k => match k with
  | _ => ("", "", "", false)
def tyJ1 : Nat → FieldType := fun k => match k with
  | _ => .int
theorem nmJ1 : ∀ a, a < 0 → ∀ b, b < 0 → a ≠ b → (TJ1 a).2.1 ≠ (TJ1 b).2.1 := by decide +kernel
theorem tyJ1_ok : ∀ k, k < 0 → parseFieldDescriptor (TJ1 k).2.2.1 = some (tyJ1 k) := by decide +kernel
abbrev cJ1_charAt_3b067 : ByteArray := prog_12_method_2_code
def yJ1_charAt_3b067 : MethodName := ⟨RJ1, "charAt", "([BI)C"⟩
def RJ2 : String := "java/lang/StringUTF16"
def TJ2 : u_T := fun k => match k with
  | _ => ("", "", "", false)
def tyJ2 : Nat → FieldType := fun k => match k with
  | _ => .int
theorem nmJ2 : ∀ a, a < 0 → ∀ b, b < 0 → a ≠ b → (TJ2 a).2.1 ≠ (TJ2 b).2.1 := by decide +kernel
theorem tyJ2_ok : ∀ k, k < 0 → parseFieldDescriptor (TJ2 k).2.2.1 = some (tyJ2 k) := by decide +kernel
abbrev cJ2_getChar_3b067 : ByteArray := prog_13_method_5_code
def yJ2_getChar_3b067 : MethodName := ⟨RJ2, "getChar", "([BI)C"⟩
abbrev cJ2_length_9d52b : ByteArray := prog_13_method_6_code
def yJ2_length_9d52b : MethodName := ⟨RJ2, "length", "([B)I"⟩
abbrev cJ2_charAt_3b067 : ByteArray := prog_13_method_83_code
def yJ2_charAt_3b067 : MethodName := ⟨RJ2, "charAt", "([BI)C"⟩
abbrev cJ2_checkIndex_2214a : ByteArray := prog_13_method_91_code
def yJ2_checkIndex_2214a : MethodName := ⟨RJ2, "checkIndex", "(I[B)V"⟩
def RJ3 : String := "jdk/internal/util/Preconditions"
def TJ3 : u_T := fun k => match k with
  | _ => ("", "", "", false)
def tyJ3 : Nat → FieldType := fun k => match k with
  | _ => .int
theorem nmJ3 : ∀ a, a < 0 → ∀ b, b < 0 → a ≠ b → (TJ3 a).2.1 ≠ (TJ3 b).2.1 := by decide +kernel
theorem tyJ3_ok : ∀ k, k < 0 → parseFieldDescriptor (TJ3 k).2.2.1 = some (tyJ3 k) := by decide +kernel
abbrev cJ3_checkIndex_8e157 : ByteArray := prog_14_method_11_code
def yJ3_checkIndex_8e157 : MethodName := ⟨RJ3, "checkIndex", "(IILjava/util/function/BiFunction;)I"⟩
def RL : String := "OilRoundLaw"
abbrev cL_law : ByteArray := code
def yL_law : MethodName := ⟨RL, "law", "([I)Z"⟩
abbrev vwCl : List vw_C := [(RX0, TX0, 2), (RX1, TX1, 15), (RX2, TX2, 3), (RX3, TX3, 12), (RX4, TX4, 7), (RX5, TX5, 14), (RX6, TX6, 45)]
end
section
theorem dX0_init_0 : decode cX0_init 0 = .ok (.aload_n 0, 1) := by decide +kernel
theorem dX0_init_1 : decode cX0_init 1 = .ok (.invokespecial 3, 3) := by decide +kernel
theorem dX0_init_4 : decode cX0_init 4 = .ok (.aload_n 0, 1) := by decide +kernel
theorem dX0_init_5 : decode cX0_init 5 = .ok (.bipush 16, 2) := by decide +kernel
theorem dX0_init_7 : decode cX0_init 7 = .ok (.newarray .int, 2) := by decide +kernel
theorem dX0_init_9 : decode cX0_init 9 = .ok (.putfield 9, 3) := by decide +kernel
theorem dX0_init_12 : decode cX0_init 12 = .ok (.aload_n 0, 1) := by decide +kernel
theorem dX0_init_13 : decode cX0_init 13 = .ok (.iconst 0, 1) := by decide +kernel
theorem dX0_init_14 : decode cX0_init 14 = .ok (.putfield 15, 3) := by decide +kernel
theorem dX0_init_17 : decode cX0_init 17 = .ok (.return_, 1) := by decide +kernel
theorem dX0_emptyTrace_0 : decode cX0_emptyTrace 0 = .ok (.aload_n 0, 1) := by decide +kernel
theorem dX0_emptyTrace_1 : decode cX0_emptyTrace 1 = .ok (.iconst 0, 1) := by decide +kernel
theorem dX0_emptyTrace_2 : decode cX0_emptyTrace 2 = .ok (.putfield 15, 3) := by decide +kernel
theorem dX0_emptyTrace_5 : decode cX0_emptyTrace 5 = .ok (.return_, 1) := by decide +kernel
theorem dX0_traced_0 : decode cX0_traced 0 = .ok (.iload_n 1, 1) := by decide +kernel
theorem dX0_traced_1 : decode cX0_traced 1 = .ok (.ifCond .lt 20, 3) := by decide +kernel
theorem dX0_traced_4 : decode cX0_traced 4 = .ok (.iload_n 1, 1) := by decide +kernel
theorem dX0_traced_5 : decode cX0_traced 5 = .ok (.aload_n 0, 1) := by decide +kernel
theorem dX0_traced_6 : decode cX0_traced 6 = .ok (.getfield 15, 3) := by decide +kernel
theorem dX0_traced_9 : decode cX0_traced 9 = .ok (.if_icmp .ge 12, 3) := by decide +kernel
theorem dX0_traced_12 : decode cX0_traced 12 = .ok (.iload_n 1, 1) := by decide +kernel
theorem dX0_traced_13 : decode cX0_traced 13 = .ok (.aload_n 0, 1) := by decide +kernel
theorem dX0_traced_14 : decode cX0_traced 14 = .ok (.getfield 9, 3) := by decide +kernel
theorem dX0_traced_17 : decode cX0_traced 17 = .ok (.arraylength, 1) := by decide +kernel
theorem dX0_traced_18 : decode cX0_traced 18 = .ok (.if_icmp .lt 8, 3) := by decide +kernel
theorem dX0_traced_21 : decode cX0_traced 21 = .ok (.ldc 19, 2) := by decide +kernel
theorem dX0_traced_23 : decode cX0_traced 23 = .ok (.goto 9, 3) := by decide +kernel
theorem dX0_traced_26 : decode cX0_traced 26 = .ok (.aload_n 0, 1) := by decide +kernel
theorem dX0_traced_27 : decode cX0_traced 27 = .ok (.getfield 9, 3) := by decide +kernel
theorem dX0_traced_30 : decode cX0_traced 30 = .ok (.iload_n 1, 1) := by decide +kernel
theorem dX0_traced_31 : decode cX0_traced 31 = .ok (.iaload, 1) := by decide +kernel
theorem dX0_traced_32 : decode cX0_traced 32 = .ok (.ireturn, 1) := by decide +kernel
theorem dX0_weight_0 : decode cX0_weight 0 = .ok (.aload_n 1, 1) := by decide +kernel
theorem dX0_weight_1 : decode cX0_weight 1 = .ok (.invokevirtual 20, 3) := by decide +kernel
theorem dX0_weight_4 : decode cX0_weight 4 = .ok (.tableswitch 46 1 3 #[40, 34, 28], 28) := by decide +kernel
theorem dX0_weight_32 : decode cX0_weight 32 = .ok (.aload_n 0, 1) := by decide +kernel
theorem dX0_weight_33 : decode cX0_weight 33 = .ok (.aload_n 1, 1) := by decide +kernel
theorem dX0_weight_34 : decode cX0_weight 34 = .ok (.invokevirtual 26, 3) := by decide +kernel
theorem dX0_weight_37 : decode cX0_weight 37 = .ok (.ireturn, 1) := by decide +kernel
theorem dX0_weight_38 : decode cX0_weight 38 = .ok (.aload_n 0, 1) := by decide +kernel
theorem dX0_weight_39 : decode cX0_weight 39 = .ok (.aload_n 1, 1) := by decide +kernel
theorem dX0_weight_40 : decode cX0_weight 40 = .ok (.invokevirtual 30, 3) := by decide +kernel
theorem dX0_weight_43 : decode cX0_weight 43 = .ok (.ireturn, 1) := by decide +kernel
theorem dX0_weight_44 : decode cX0_weight 44 = .ok (.aload_n 0, 1) := by decide +kernel
theorem dX0_weight_45 : decode cX0_weight 45 = .ok (.aload_n 1, 1) := by decide +kernel
theorem dX0_weight_46 : decode cX0_weight 46 = .ok (.invokevirtual 33, 3) := by decide +kernel
theorem dX0_weight_49 : decode cX0_weight 49 = .ok (.ireturn, 1) := by decide +kernel
theorem dX0_weight_50 : decode cX0_weight 50 = .ok (.aload_n 0, 1) := by decide +kernel
theorem dX0_weight_51 : decode cX0_weight 51 = .ok (.aload_n 1, 1) := by decide +kernel
theorem dX0_weight_52 : decode cX0_weight 52 = .ok (.invokevirtual 36, 3) := by decide +kernel
theorem dX0_weight_55 : decode cX0_weight 55 = .ok (.ireturn, 1) := by decide +kernel
theorem dX0_mark_0 : decode cX0_mark 0 = .ok (.aload_n 1, 1) := by decide +kernel
theorem dX0_mark_1 : decode cX0_mark 1 = .ok (.invokevirtual 20, 3) := by decide +kernel
theorem dX0_mark_4 : decode cX0_mark 4 = .ok (.tableswitch 40 1 3 #[34, 34, 28], 28) := by decide +kernel
theorem dX0_mark_32 : decode cX0_mark 32 = .ok (.aload_n 0, 1) := by decide +kernel
theorem dX0_mark_33 : decode cX0_mark 33 = .ok (.aload_n 1, 1) := by decide +kernel
theorem dX0_mark_34 : decode cX0_mark 34 = .ok (.invokevirtual 39, 3) := by decide +kernel
theorem dX0_mark_37 : decode cX0_mark 37 = .ok (.ireturn, 1) := by decide +kernel
theorem dX0_mark_38 : decode cX0_mark 38 = .ok (.aload_n 0, 1) := by decide +kernel
theorem dX0_mark_39 : decode cX0_mark 39 = .ok (.aload_n 1, 1) := by decide +kernel
theorem dX0_mark_40 : decode cX0_mark 40 = .ok (.invokevirtual 42, 3) := by decide +kernel
theorem dX0_mark_43 : decode cX0_mark 43 = .ok (.ireturn, 1) := by decide +kernel
theorem dX0_mark_44 : decode cX0_mark 44 = .ok (.aload_n 0, 1) := by decide +kernel
theorem dX0_mark_45 : decode cX0_mark 45 = .ok (.aload_n 1, 1) := by decide +kernel
theorem dX0_mark_46 : decode cX0_mark 46 = .ok (.invokevirtual 45, 3) := by decide +kernel
theorem dX0_mark_49 : decode cX0_mark 49 = .ok (.ireturn, 1) := by decide +kernel
theorem dX0_lentWeight_0 : decode cX0_lentWeight 0 = .ok (.aload_n 0, 1) := by decide +kernel
theorem dX0_lentWeight_1 : decode cX0_lentWeight 1 = .ok (.bipush 10, 2) := by decide +kernel
theorem dX0_lentWeight_3 : decode cX0_lentWeight 3 = .ok (.invokevirtual 48, 3) := by decide +kernel
theorem dX0_lentWeight_6 : decode cX0_lentWeight 6 = .ok (.aload_n 1, 1) := by decide +kernel
theorem dX0_lentWeight_7 : decode cX0_lentWeight 7 = .ok (.getfield 52, 3) := by decide +kernel
theorem dX0_lentWeight_10 : decode cX0_lentWeight 10 = .ok (.aload_n 1, 1) := by decide +kernel
theorem dX0_lentWeight_11 : decode cX0_lentWeight 11 = .ok (.getfield 55, 3) := by decide +kernel
theorem dX0_lentWeight_14 : decode cX0_lentWeight 14 = .ok (.isub, 1) := by decide +kernel
theorem dX0_lentWeight_15 : decode cX0_lentWeight 15 = .ok (.ireturn, 1) := by decide +kernel
theorem dX0_knownWeight_0 : decode cX0_knownWeight 0 = .ok (.aload_n 0, 1) := by decide +kernel
theorem dX0_knownWeight_1 : decode cX0_knownWeight 1 = .ok (.bipush 11, 2) := by decide +kernel
theorem dX0_knownWeight_3 : decode cX0_knownWeight 3 = .ok (.invokevirtual 48, 3) := by decide +kernel
theorem dX0_knownWeight_6 : decode cX0_knownWeight 6 = .ok (.aload_n 0, 1) := by decide +kernel
theorem dX0_knownWeight_7 : decode cX0_knownWeight 7 = .ok (.aload_n 1, 1) := by decide +kernel
theorem dX0_knownWeight_8 : decode cX0_knownWeight 8 = .ok (.invokevirtual 36, 3) := by decide +kernel
theorem dX0_knownWeight_11 : decode cX0_knownWeight 11 = .ok (.aload_n 1, 1) := by decide +kernel
theorem dX0_knownWeight_12 : decode cX0_knownWeight 12 = .ok (.getfield 58, 3) := by decide +kernel
theorem dX0_knownWeight_15 : decode cX0_knownWeight 15 = .ok (.iadd, 1) := by decide +kernel
theorem dX0_knownWeight_16 : decode cX0_knownWeight 16 = .ok (.ireturn, 1) := by decide +kernel
theorem dX0_steadyWeight_0 : decode cX0_steadyWeight 0 = .ok (.aload_n 0, 1) := by decide +kernel
theorem dX0_steadyWeight_1 : decode cX0_steadyWeight 1 = .ok (.bipush 12, 2) := by decide +kernel
theorem dX0_steadyWeight_3 : decode cX0_steadyWeight 3 = .ok (.invokevirtual 48, 3) := by decide +kernel
theorem dX0_steadyWeight_6 : decode cX0_steadyWeight 6 = .ok (.aload_n 0, 1) := by decide +kernel
theorem dX0_steadyWeight_7 : decode cX0_steadyWeight 7 = .ok (.aload_n 1, 1) := by decide +kernel
theorem dX0_steadyWeight_8 : decode cX0_steadyWeight 8 = .ok (.invokevirtual 33, 3) := by decide +kernel
theorem dX0_steadyWeight_11 : decode cX0_steadyWeight 11 = .ok (.aload_n 1, 1) := by decide +kernel
theorem dX0_steadyWeight_12 : decode cX0_steadyWeight 12 = .ok (.getfield 61, 3) := by decide +kernel
theorem dX0_steadyWeight_15 : decode cX0_steadyWeight 15 = .ok (.iadd, 1) := by decide +kernel
theorem dX0_steadyWeight_16 : decode cX0_steadyWeight 16 = .ok (.ireturn, 1) := by decide +kernel
theorem dX0_leakyWeight_0 : decode cX0_leakyWeight 0 = .ok (.aload_n 0, 1) := by decide +kernel
theorem dX0_leakyWeight_1 : decode cX0_leakyWeight 1 = .ok (.bipush 13, 2) := by decide +kernel
theorem dX0_leakyWeight_3 : decode cX0_leakyWeight 3 = .ok (.invokevirtual 48, 3) := by decide +kernel
theorem dX0_leakyWeight_6 : decode cX0_leakyWeight 6 = .ok (.aload_n 0, 1) := by decide +kernel
theorem dX0_leakyWeight_7 : decode cX0_leakyWeight 7 = .ok (.aload_n 1, 1) := by decide +kernel
theorem dX0_leakyWeight_8 : decode cX0_leakyWeight 8 = .ok (.invokevirtual 36, 3) := by decide +kernel
theorem dX0_leakyWeight_11 : decode cX0_leakyWeight 11 = .ok (.sipush 5000, 3) := by decide +kernel
theorem dX0_leakyWeight_14 : decode cX0_leakyWeight 14 = .ok (.iadd, 1) := by decide +kernel
theorem dX0_leakyWeight_15 : decode cX0_leakyWeight 15 = .ok (.ireturn, 1) := by decide +kernel
theorem dX0_lentMark_0 : decode cX0_lentMark 0 = .ok (.aload_n 0, 1) := by decide +kernel
theorem dX0_lentMark_1 : decode cX0_lentMark 1 = .ok (.bipush 20, 2) := by decide +kernel
theorem dX0_lentMark_3 : decode cX0_lentMark 3 = .ok (.invokevirtual 48, 3) := by decide +kernel
theorem dX0_lentMark_6 : decode cX0_lentMark 6 = .ok (.aload_n 1, 1) := by decide +kernel
theorem dX0_lentMark_7 : decode cX0_lentMark 7 = .ok (.getfield 64, 3) := by decide +kernel
theorem dX0_lentMark_10 : decode cX0_lentMark 10 = .ok (.ireturn, 1) := by decide +kernel
theorem dX0_knownMark_0 : decode cX0_knownMark 0 = .ok (.aload_n 0, 1) := by decide +kernel
theorem dX0_knownMark_1 : decode cX0_knownMark 1 = .ok (.bipush 21, 2) := by decide +kernel
theorem dX0_knownMark_3 : decode cX0_knownMark 3 = .ok (.invokevirtual 48, 3) := by decide +kernel
theorem dX0_knownMark_6 : decode cX0_knownMark 6 = .ok (.aload_n 0, 1) := by decide +kernel
theorem dX0_knownMark_7 : decode cX0_knownMark 7 = .ok (.aload_n 1, 1) := by decide +kernel
theorem dX0_knownMark_8 : decode cX0_knownMark 8 = .ok (.invokevirtual 45, 3) := by decide +kernel
theorem dX0_knownMark_11 : decode cX0_knownMark 11 = .ok (.aload_n 0, 1) := by decide +kernel
theorem dX0_knownMark_12 : decode cX0_knownMark 12 = .ok (.aload_n 1, 1) := by decide +kernel
theorem dX0_knownMark_13 : decode cX0_knownMark 13 = .ok (.invokevirtual 67, 3) := by decide +kernel
theorem dX0_knownMark_16 : decode cX0_knownMark 16 = .ok (.iadd, 1) := by decide +kernel
theorem dX0_knownMark_17 : decode cX0_knownMark 17 = .ok (.ireturn, 1) := by decide +kernel
theorem dX0_leakyMark_0 : decode cX0_leakyMark 0 = .ok (.aload_n 0, 1) := by decide +kernel
theorem dX0_leakyMark_1 : decode cX0_leakyMark 1 = .ok (.bipush 22, 2) := by decide +kernel
theorem dX0_leakyMark_3 : decode cX0_leakyMark 3 = .ok (.invokevirtual 48, 3) := by decide +kernel
theorem dX0_leakyMark_6 : decode cX0_leakyMark 6 = .ok (.aload_n 0, 1) := by decide +kernel
theorem dX0_leakyMark_7 : decode cX0_leakyMark 7 = .ok (.aload_n 1, 1) := by decide +kernel
theorem dX0_leakyMark_8 : decode cX0_leakyMark 8 = .ok (.invokevirtual 45, 3) := by decide +kernel
theorem dX0_leakyMark_11 : decode cX0_leakyMark 11 = .ok (.aload_n 0, 1) := by decide +kernel
theorem dX0_leakyMark_12 : decode cX0_leakyMark 12 = .ok (.aload_n 1, 1) := by decide +kernel
theorem dX0_leakyMark_13 : decode cX0_leakyMark 13 = .ok (.invokevirtual 67, 3) := by decide +kernel
theorem dX0_leakyMark_16 : decode cX0_leakyMark 16 = .ok (.isub, 1) := by decide +kernel
theorem dX0_leakyMark_17 : decode cX0_leakyMark 17 = .ok (.ireturn, 1) := by decide +kernel
theorem dX0_begin_0 : decode cX0_begin 0 = .ok (.aload_n 0, 1) := by decide +kernel
theorem dX0_begin_1 : decode cX0_begin 1 = .ok (.getfield 15, 3) := by decide +kernel
theorem dX0_begin_4 : decode cX0_begin 4 = .ok (.ifCond .lt 15, 3) := by decide +kernel
theorem dX0_begin_7 : decode cX0_begin 7 = .ok (.aload_n 0, 1) := by decide +kernel
theorem dX0_begin_8 : decode cX0_begin 8 = .ok (.getfield 15, 3) := by decide +kernel
theorem dX0_begin_11 : decode cX0_begin 11 = .ok (.aload_n 0, 1) := by decide +kernel
theorem dX0_begin_12 : decode cX0_begin 12 = .ok (.getfield 9, 3) := by decide +kernel
theorem dX0_begin_15 : decode cX0_begin 15 = .ok (.arraylength, 1) := by decide +kernel
theorem dX0_begin_16 : decode cX0_begin 16 = .ok (.if_icmp .lt 4, 3) := by decide +kernel
theorem dX0_begin_19 : decode cX0_begin 19 = .ok (.return_, 1) := by decide +kernel
theorem dX0_begin_20 : decode cX0_begin 20 = .ok (.aload_n 0, 1) := by decide +kernel
theorem dX0_begin_21 : decode cX0_begin 21 = .ok (.getfield 9, 3) := by decide +kernel
theorem dX0_begin_24 : decode cX0_begin 24 = .ok (.aload_n 0, 1) := by decide +kernel
theorem dX0_begin_25 : decode cX0_begin 25 = .ok (.getfield 15, 3) := by decide +kernel
theorem dX0_begin_28 : decode cX0_begin 28 = .ok (.iload_n 1, 1) := by decide +kernel
theorem dX0_begin_29 : decode cX0_begin 29 = .ok (.iastore, 1) := by decide +kernel
theorem dX0_begin_30 : decode cX0_begin 30 = .ok (.aload_n 0, 1) := by decide +kernel
theorem dX0_begin_31 : decode cX0_begin 31 = .ok (.dup, 1) := by decide +kernel
theorem dX0_begin_32 : decode cX0_begin 32 = .ok (.getfield 15, 3) := by decide +kernel
theorem dX0_begin_35 : decode cX0_begin 35 = .ok (.iconst 1, 1) := by decide +kernel
theorem dX0_begin_36 : decode cX0_begin 36 = .ok (.iadd, 1) := by decide +kernel
theorem dX0_begin_37 : decode cX0_begin 37 = .ok (.putfield 15, 3) := by decide +kernel
theorem dX0_begin_40 : decode cX0_begin 40 = .ok (.return_, 1) := by decide +kernel
theorem dX1_init_0 : decode cX1_init 0 = .ok (.aload_n 0, 1) := by decide +kernel
theorem dX1_init_1 : decode cX1_init 1 = .ok (.invokespecial 3, 3) := by decide +kernel
theorem dX1_init_4 : decode cX1_init 4 = .ok (.aload_n 0, 1) := by decide +kernel
theorem dX1_init_5 : decode cX1_init 5 = .ok (.new 9, 3) := by decide +kernel
theorem dX1_init_8 : decode cX1_init 8 = .ok (.dup, 1) := by decide +kernel
theorem dX1_init_9 : decode cX1_init 9 = .ok (.invokespecial 11, 3) := by decide +kernel
theorem dX1_init_12 : decode cX1_init 12 = .ok (.putfield 12, 3) := by decide +kernel
theorem dX1_init_15 : decode cX1_init 15 = .ok (.aload_n 0, 1) := by decide +kernel
theorem dX1_init_16 : decode cX1_init 16 = .ok (.iconst 0, 1) := by decide +kernel
theorem dX1_init_17 : decode cX1_init 17 = .ok (.putfield 18, 3) := by decide +kernel
theorem dX1_init_20 : decode cX1_init 20 = .ok (.aload_n 0, 1) := by decide +kernel
theorem dX1_init_21 : decode cX1_init 21 = .ok (.iconst 0, 1) := by decide +kernel
theorem dX1_init_22 : decode cX1_init 22 = .ok (.putfield 22, 3) := by decide +kernel
theorem dX1_init_25 : decode cX1_init 25 = .ok (.aload_n 0, 1) := by decide +kernel
theorem dX1_init_26 : decode cX1_init 26 = .ok (.bipush 50, 2) := by decide +kernel
theorem dX1_init_28 : decode cX1_init 28 = .ok (.putfield 25, 3) := by decide +kernel
theorem dX1_init_31 : decode cX1_init 31 = .ok (.aload_n 0, 1) := by decide +kernel
theorem dX1_init_32 : decode cX1_init 32 = .ok (.bipush 50, 2) := by decide +kernel
theorem dX1_init_34 : decode cX1_init 34 = .ok (.putfield 28, 3) := by decide +kernel
theorem dX1_init_37 : decode cX1_init 37 = .ok (.aload_n 0, 1) := by decide +kernel
theorem dX1_init_38 : decode cX1_init 38 = .ok (.iconst 0, 1) := by decide +kernel
theorem dX1_init_39 : decode cX1_init 39 = .ok (.putfield 31, 3) := by decide +kernel
theorem dX1_init_42 : decode cX1_init 42 = .ok (.aload_n 0, 1) := by decide +kernel
theorem dX1_init_43 : decode cX1_init 43 = .ok (.iconst 0, 1) := by decide +kernel
theorem dX1_init_44 : decode cX1_init 44 = .ok (.putfield 34, 3) := by decide +kernel
theorem dX1_init_47 : decode cX1_init 47 = .ok (.aload_n 0, 1) := by decide +kernel
theorem dX1_init_48 : decode cX1_init 48 = .ok (.iconst 0, 1) := by decide +kernel
theorem dX1_init_49 : decode cX1_init 49 = .ok (.putfield 37, 3) := by decide +kernel
theorem dX1_init_52 : decode cX1_init 52 = .ok (.aload_n 0, 1) := by decide +kernel
theorem dX1_init_53 : decode cX1_init 53 = .ok (.iconst 0, 1) := by decide +kernel
theorem dX1_init_54 : decode cX1_init 54 = .ok (.putfield 41, 3) := by decide +kernel
theorem dX1_init_57 : decode cX1_init 57 = .ok (.aload_n 0, 1) := by decide +kernel
theorem dX1_init_58 : decode cX1_init 58 = .ok (.iconst 0, 1) := by decide +kernel
theorem dX1_init_59 : decode cX1_init 59 = .ok (.putfield 44, 3) := by decide +kernel
theorem dX1_init_62 : decode cX1_init 62 = .ok (.aload_n 0, 1) := by decide +kernel
theorem dX1_init_63 : decode cX1_init 63 = .ok (.iload_n 1, 1) := by decide +kernel
theorem dX1_init_64 : decode cX1_init 64 = .ok (.putfield 47, 3) := by decide +kernel
theorem dX1_init_67 : decode cX1_init 67 = .ok (.aload_n 0, 1) := by decide +kernel
theorem dX1_init_68 : decode cX1_init 68 = .ok (.iload_n 2, 1) := by decide +kernel
theorem dX1_init_69 : decode cX1_init 69 = .ok (.putfield 50, 3) := by decide +kernel
theorem dX1_init_72 : decode cX1_init 72 = .ok (.aload_n 0, 1) := by decide +kernel
theorem dX1_init_73 : decode cX1_init 73 = .ok (.iload_n 3, 1) := by decide +kernel
theorem dX1_init_74 : decode cX1_init 74 = .ok (.putfield 53, 3) := by decide +kernel
theorem dX1_init_77 : decode cX1_init 77 = .ok (.aload_n 0, 1) := by decide +kernel
theorem dX1_init_78 : decode cX1_init 78 = .ok (.iload_n 3, 1) := by decide +kernel
theorem dX1_init_79 : decode cX1_init 79 = .ok (.putfield 56, 3) := by decide +kernel
theorem dX1_init_82 : decode cX1_init 82 = .ok (.aload_n 0, 1) := by decide +kernel
theorem dX1_init_83 : decode cX1_init 83 = .ok (.iload_n 3, 1) := by decide +kernel
theorem dX1_init_84 : decode cX1_init 84 = .ok (.putfield 59, 3) := by decide +kernel
theorem dX1_init_87 : decode cX1_init 87 = .ok (.return_, 1) := by decide +kernel
theorem dX1_low_0 : decode cX1_low 0 = .ok (.aload_n 0, 1) := by decide +kernel
theorem dX1_low_1 : decode cX1_low 1 = .ok (.getfield 18, 3) := by decide +kernel
theorem dX1_low_4 : decode cX1_low 4 = .ok (.aload_n 0, 1) := by decide +kernel
theorem dX1_low_5 : decode cX1_low 5 = .ok (.getfield 22, 3) := by decide +kernel
theorem dX1_low_8 : decode cX1_low 8 = .ok (.iload_n 1, 1) := by decide +kernel
theorem dX1_low_9 : decode cX1_low 9 = .ok (.imul, 1) := by decide +kernel
theorem dX1_low_10 : decode cX1_low 10 = .ok (.iadd, 1) := by decide +kernel
theorem dX1_low_11 : decode cX1_low 11 = .ok (.ireturn, 1) := by decide +kernel
theorem dX1_high_0 : decode cX1_high 0 = .ok (.aload_n 0, 1) := by decide +kernel
theorem dX1_high_1 : decode cX1_high 1 = .ok (.getfield 25, 3) := by decide +kernel
theorem dX1_high_4 : decode cX1_high 4 = .ok (.aload_n 0, 1) := by decide +kernel
theorem dX1_high_5 : decode cX1_high 5 = .ok (.getfield 28, 3) := by decide +kernel
theorem dX1_high_8 : decode cX1_high 8 = .ok (.iload_n 1, 1) := by decide +kernel
theorem dX1_high_9 : decode cX1_high 9 = .ok (.imul, 1) := by decide +kernel
theorem dX1_high_10 : decode cX1_high 10 = .ok (.iadd, 1) := by decide +kernel
theorem dX1_high_11 : decode cX1_high 11 = .ok (.ireturn, 1) := by decide +kernel
theorem dX1_endDay_0 : decode cX1_endDay 0 = .ok (.aload_n 0, 1) := by decide +kernel
theorem dX1_endDay_1 : decode cX1_endDay 1 = .ok (.iconst 0, 1) := by decide +kernel
theorem dX1_endDay_2 : decode cX1_endDay 2 = .ok (.aload_n 0, 1) := by decide +kernel
theorem dX1_endDay_3 : decode cX1_endDay 3 = .ok (.getfield 56, 3) := by decide +kernel
theorem dX1_endDay_6 : decode cX1_endDay 6 = .ok (.aload_n 0, 1) := by decide +kernel
theorem dX1_endDay_7 : decode cX1_endDay 7 = .ok (.iload_n 1, 1) := by decide +kernel
theorem dX1_endDay_8 : decode cX1_endDay 8 = .ok (.invokevirtual 62, 3) := by decide +kernel
theorem dX1_endDay_11 : decode cX1_endDay 11 = .ok (.isub, 1) := by decide +kernel
theorem dX1_endDay_12 : decode cX1_endDay 12 = .ok (.invokestatic 66, 3) := by decide +kernel
theorem dX1_endDay_15 : decode cX1_endDay 15 = .ok (.putfield 56, 3) := by decide +kernel
theorem dX1_endDay_18 : decode cX1_endDay 18 = .ok (.aload_n 0, 1) := by decide +kernel
theorem dX1_endDay_19 : decode cX1_endDay 19 = .ok (.iconst 0, 1) := by decide +kernel
theorem dX1_endDay_20 : decode cX1_endDay 20 = .ok (.aload_n 0, 1) := by decide +kernel
theorem dX1_endDay_21 : decode cX1_endDay 21 = .ok (.getfield 59, 3) := by decide +kernel
theorem dX1_endDay_24 : decode cX1_endDay 24 = .ok (.aload_n 0, 1) := by decide +kernel
theorem dX1_endDay_25 : decode cX1_endDay 25 = .ok (.iload_n 1, 1) := by decide +kernel
theorem dX1_endDay_26 : decode cX1_endDay 26 = .ok (.invokevirtual 72, 3) := by decide +kernel
theorem dX1_endDay_29 : decode cX1_endDay 29 = .ok (.isub, 1) := by decide +kernel
theorem dX1_endDay_30 : decode cX1_endDay 30 = .ok (.invokestatic 66, 3) := by decide +kernel
theorem dX1_endDay_33 : decode cX1_endDay 33 = .ok (.putfield 59, 3) := by decide +kernel
theorem dX1_endDay_36 : decode cX1_endDay 36 = .ok (.aload_n 0, 1) := by decide +kernel
theorem dX1_endDay_37 : decode cX1_endDay 37 = .ok (.dup, 1) := by decide +kernel
theorem dX1_endDay_38 : decode cX1_endDay 38 = .ok (.getfield 41, 3) := by decide +kernel
theorem dX1_endDay_41 : decode cX1_endDay 41 = .ok (.iconst 1, 1) := by decide +kernel
theorem dX1_endDay_42 : decode cX1_endDay 42 = .ok (.iadd, 1) := by decide +kernel
theorem dX1_endDay_43 : decode cX1_endDay 43 = .ok (.putfield 41, 3) := by decide +kernel
theorem dX1_endDay_46 : decode cX1_endDay 46 = .ok (.aload_n 0, 1) := by decide +kernel
theorem dX1_endDay_47 : decode cX1_endDay 47 = .ok (.dup, 1) := by decide +kernel
theorem dX1_endDay_48 : decode cX1_endDay 48 = .ok (.getfield 44, 3) := by decide +kernel
theorem dX1_endDay_51 : decode cX1_endDay 51 = .ok (.iload_n 1, 1) := by decide +kernel
theorem dX1_endDay_52 : decode cX1_endDay 52 = .ok (.iadd, 1) := by decide +kernel
theorem dX1_endDay_53 : decode cX1_endDay 53 = .ok (.putfield 44, 3) := by decide +kernel
theorem dX1_endDay_56 : decode cX1_endDay 56 = .ok (.return_, 1) := by decide +kernel
theorem dX1_isSafe_0 : decode cX1_isSafe 0 = .ok (.aload_n 0, 1) := by decide +kernel
theorem dX1_isSafe_1 : decode cX1_isSafe 1 = .ok (.getfield 59, 3) := by decide +kernel
theorem dX1_isSafe_4 : decode cX1_isSafe 4 = .ok (.ifCond .le 7, 3) := by decide +kernel
theorem dX1_isSafe_7 : decode cX1_isSafe 7 = .ok (.iconst 1, 1) := by decide +kernel
theorem dX1_isSafe_8 : decode cX1_isSafe 8 = .ok (.goto 4, 3) := by decide +kernel
theorem dX1_isSafe_11 : decode cX1_isSafe 11 = .ok (.iconst 0, 1) := by decide +kernel
theorem dX1_isSafe_12 : decode cX1_isSafe 12 = .ok (.ireturn, 1) := by decide +kernel
theorem dX1_isDue_0 : decode cX1_isDue 0 = .ok (.aload_n 0, 1) := by decide +kernel
theorem dX1_isDue_1 : decode cX1_isDue 1 = .ok (.getfield 59, 3) := by decide +kernel
theorem dX1_isDue_4 : decode cX1_isDue 4 = .ok (.iload_n 1, 1) := by decide +kernel
theorem dX1_isDue_5 : decode cX1_isDue 5 = .ok (.aload_n 0, 1) := by decide +kernel
theorem dX1_isDue_6 : decode cX1_isDue 6 = .ok (.iload_n 2, 1) := by decide +kernel
theorem dX1_isDue_7 : decode cX1_isDue 7 = .ok (.invokevirtual 72, 3) := by decide +kernel
theorem dX1_isDue_10 : decode cX1_isDue 10 = .ok (.imul, 1) := by decide +kernel
theorem dX1_isDue_11 : decode cX1_isDue 11 = .ok (.if_icmp .gt 7, 3) := by decide +kernel
theorem dX1_isDue_14 : decode cX1_isDue 14 = .ok (.iconst 1, 1) := by decide +kernel
theorem dX1_isDue_15 : decode cX1_isDue 15 = .ok (.goto 4, 3) := by decide +kernel
theorem dX1_isDue_18 : decode cX1_isDue 18 = .ok (.iconst 0, 1) := by decide +kernel
theorem dX1_isDue_19 : decode cX1_isDue 19 = .ok (.ireturn, 1) := by decide +kernel
theorem dX1_daysToGo_0 : decode cX1_daysToGo 0 = .ok (.aload_n 0, 1) := by decide +kernel
theorem dX1_daysToGo_1 : decode cX1_daysToGo 1 = .ok (.iload_n 1, 1) := by decide +kernel
theorem dX1_daysToGo_2 : decode cX1_daysToGo 2 = .ok (.invokevirtual 72, 3) := by decide +kernel
theorem dX1_daysToGo_5 : decode cX1_daysToGo 5 = .ok (.istore_n 2, 1) := by decide +kernel
theorem dX1_daysToGo_6 : decode cX1_daysToGo 6 = .ok (.iload_n 2, 1) := by decide +kernel
theorem dX1_daysToGo_7 : decode cX1_daysToGo 7 = .ok (.ifCond .gt 9, 3) := by decide +kernel
theorem dX1_daysToGo_10 : decode cX1_daysToGo 10 = .ok (.sipush 1000, 3) := by decide +kernel
theorem dX1_daysToGo_13 : decode cX1_daysToGo 13 = .ok (.goto 9, 3) := by decide +kernel
theorem dX1_daysToGo_16 : decode cX1_daysToGo 16 = .ok (.aload_n 0, 1) := by decide +kernel
theorem dX1_daysToGo_17 : decode cX1_daysToGo 17 = .ok (.getfield 59, 3) := by decide +kernel
theorem dX1_daysToGo_20 : decode cX1_daysToGo 20 = .ok (.iload_n 2, 1) := by decide +kernel
theorem dX1_daysToGo_21 : decode cX1_daysToGo 21 = .ok (.idiv, 1) := by decide +kernel
theorem dX1_daysToGo_22 : decode cX1_daysToGo 22 = .ok (.ireturn, 1) := by decide +kernel
theorem dX1_daysAboveZero_0 : decode cX1_daysAboveZero 0 = .ok (.aload_n 0, 1) := by decide +kernel
theorem dX1_daysAboveZero_1 : decode cX1_daysAboveZero 1 = .ok (.getfield 59, 3) := by decide +kernel
theorem dX1_daysAboveZero_4 : decode cX1_daysAboveZero 4 = .ok (.ifCond .gt 5, 3) := by decide +kernel
theorem dX1_daysAboveZero_7 : decode cX1_daysAboveZero 7 = .ok (.iconst 0, 1) := by decide +kernel
theorem dX1_daysAboveZero_8 : decode cX1_daysAboveZero 8 = .ok (.ireturn, 1) := by decide +kernel
theorem dX1_daysAboveZero_9 : decode cX1_daysAboveZero 9 = .ok (.aload_n 0, 1) := by decide +kernel
theorem dX1_daysAboveZero_10 : decode cX1_daysAboveZero 10 = .ok (.iload_n 1, 1) := by decide +kernel
theorem dX1_daysAboveZero_11 : decode cX1_daysAboveZero 11 = .ok (.invokevirtual 72, 3) := by decide +kernel
theorem dX1_daysAboveZero_14 : decode cX1_daysAboveZero 14 = .ok (.istore_n 2, 1) := by decide +kernel
theorem dX1_daysAboveZero_15 : decode cX1_daysAboveZero 15 = .ok (.iload_n 2, 1) := by decide +kernel
theorem dX1_daysAboveZero_16 : decode cX1_daysAboveZero 16 = .ok (.ifCond .gt 9, 3) := by decide +kernel
theorem dX1_daysAboveZero_19 : decode cX1_daysAboveZero 19 = .ok (.sipush 500, 3) := by decide +kernel
theorem dX1_daysAboveZero_22 : decode cX1_daysAboveZero 22 = .ok (.goto 17, 3) := by decide +kernel
theorem dX1_daysAboveZero_25 : decode cX1_daysAboveZero 25 = .ok (.sipush 500, 3) := by decide +kernel
theorem dX1_daysAboveZero_28 : decode cX1_daysAboveZero 28 = .ok (.aload_n 0, 1) := by decide +kernel
theorem dX1_daysAboveZero_29 : decode cX1_daysAboveZero 29 = .ok (.getfield 59, 3) := by decide +kernel
theorem dX1_daysAboveZero_32 : decode cX1_daysAboveZero 32 = .ok (.iconst 1, 1) := by decide +kernel
theorem dX1_daysAboveZero_33 : decode cX1_daysAboveZero 33 = .ok (.isub, 1) := by decide +kernel
theorem dX1_daysAboveZero_34 : decode cX1_daysAboveZero 34 = .ok (.iload_n 2, 1) := by decide +kernel
theorem dX1_daysAboveZero_35 : decode cX1_daysAboveZero 35 = .ok (.idiv, 1) := by decide +kernel
theorem dX1_daysAboveZero_36 : decode cX1_daysAboveZero 36 = .ok (.invokestatic 75, 3) := by decide +kernel
theorem dX1_daysAboveZero_39 : decode cX1_daysAboveZero 39 = .ok (.ireturn, 1) := by decide +kernel
theorem dX1_mayNeed_0 : decode cX1_mayNeed 0 = .ok (.aload_n 0, 1) := by decide +kernel
theorem dX1_mayNeed_1 : decode cX1_mayNeed 1 = .ok (.getfield 53, 3) := by decide +kernel
theorem dX1_mayNeed_4 : decode cX1_mayNeed 4 = .ok (.aload_n 0, 1) := by decide +kernel
theorem dX1_mayNeed_5 : decode cX1_mayNeed 5 = .ok (.getfield 59, 3) := by decide +kernel
theorem dX1_mayNeed_8 : decode cX1_mayNeed 8 = .ok (.isub, 1) := by decide +kernel
theorem dX1_mayNeed_9 : decode cX1_mayNeed 9 = .ok (.ireturn, 1) := by decide +kernel
theorem dX1_takeFill_0 : decode cX1_takeFill 0 = .ok (.aload_n 0, 1) := by decide +kernel
theorem dX1_takeFill_1 : decode cX1_takeFill 1 = .ok (.aload_n 0, 1) := by decide +kernel
theorem dX1_takeFill_2 : decode cX1_takeFill 2 = .ok (.iload_n 1, 1) := by decide +kernel
theorem dX1_takeFill_3 : decode cX1_takeFill 3 = .ok (.invokevirtual 78, 3) := by decide +kernel
theorem dX1_takeFill_6 : decode cX1_takeFill 6 = .ok (.putfield 34, 3) := by decide +kernel
theorem dX1_takeFill_9 : decode cX1_takeFill 9 = .ok (.aload_n 0, 1) := by decide +kernel
theorem dX1_takeFill_10 : decode cX1_takeFill 10 = .ok (.getfield 34, 3) := by decide +kernel
theorem dX1_takeFill_13 : decode cX1_takeFill 13 = .ok (.ifCond .eq 11, 3) := by decide +kernel
theorem dX1_takeFill_16 : decode cX1_takeFill 16 = .ok (.aload_n 0, 1) := by decide +kernel
theorem dX1_takeFill_17 : decode cX1_takeFill 17 = .ok (.iconst 1, 1) := by decide +kernel
theorem dX1_takeFill_18 : decode cX1_takeFill 18 = .ok (.putfield 37, 3) := by decide +kernel
theorem dX1_takeFill_21 : decode cX1_takeFill 21 = .ok (.goto 24, 3) := by decide +kernel
theorem dX1_takeFill_24 : decode cX1_takeFill 24 = .ok (.iload_n 1, 1) := by decide +kernel
theorem dX1_takeFill_25 : decode cX1_takeFill 25 = .ok (.aload_n 0, 1) := by decide +kernel
theorem dX1_takeFill_26 : decode cX1_takeFill 26 = .ok (.getfield 53, 3) := by decide +kernel
theorem dX1_takeFill_29 : decode cX1_takeFill 29 = .ok (.if_icmp .ge 16, 3) := by decide +kernel
theorem dX1_takeFill_32 : decode cX1_takeFill 32 = .ok (.aload_n 0, 1) := by decide +kernel
theorem dX1_takeFill_33 : decode cX1_takeFill 33 = .ok (.getfield 41, 3) := by decide +kernel
theorem dX1_takeFill_36 : decode cX1_takeFill 36 = .ok (.iconst 1, 1) := by decide +kernel
theorem dX1_takeFill_37 : decode cX1_takeFill 37 = .ok (.if_icmp .lt 8, 3) := by decide +kernel
theorem dX1_takeFill_40 : decode cX1_takeFill 40 = .ok (.aload_n 0, 1) := by decide +kernel
theorem dX1_takeFill_41 : decode cX1_takeFill 41 = .ok (.iload_n 1, 1) := by decide +kernel
theorem dX1_takeFill_42 : decode cX1_takeFill 42 = .ok (.invokevirtual 81, 3) := by decide +kernel
theorem dX1_takeFill_45 : decode cX1_takeFill 45 = .ok (.aload_n 0, 1) := by decide +kernel
theorem dX1_takeFill_46 : decode cX1_takeFill 46 = .ok (.dup, 1) := by decide +kernel
theorem dX1_takeFill_47 : decode cX1_takeFill 47 = .ok (.getfield 31, 3) := by decide +kernel
theorem dX1_takeFill_50 : decode cX1_takeFill 50 = .ok (.iconst 1, 1) := by decide +kernel
theorem dX1_takeFill_51 : decode cX1_takeFill 51 = .ok (.iadd, 1) := by decide +kernel
theorem dX1_takeFill_52 : decode cX1_takeFill 52 = .ok (.putfield 31, 3) := by decide +kernel
theorem dX1_takeFill_55 : decode cX1_takeFill 55 = .ok (.aload_n 0, 1) := by decide +kernel
theorem dX1_takeFill_56 : decode cX1_takeFill 56 = .ok (.aload_n 0, 1) := by decide +kernel
theorem dX1_takeFill_57 : decode cX1_takeFill 57 = .ok (.getfield 53, 3) := by decide +kernel
theorem dX1_takeFill_60 : decode cX1_takeFill 60 = .ok (.putfield 56, 3) := by decide +kernel
theorem dX1_takeFill_63 : decode cX1_takeFill 63 = .ok (.aload_n 0, 1) := by decide +kernel
theorem dX1_takeFill_64 : decode cX1_takeFill 64 = .ok (.aload_n 0, 1) := by decide +kernel
theorem dX1_takeFill_65 : decode cX1_takeFill 65 = .ok (.getfield 53, 3) := by decide +kernel
theorem dX1_takeFill_68 : decode cX1_takeFill 68 = .ok (.putfield 59, 3) := by decide +kernel
theorem dX1_takeFill_71 : decode cX1_takeFill 71 = .ok (.aload_n 0, 1) := by decide +kernel
theorem dX1_takeFill_72 : decode cX1_takeFill 72 = .ok (.iconst 0, 1) := by decide +kernel
theorem dX1_takeFill_73 : decode cX1_takeFill 73 = .ok (.putfield 41, 3) := by decide +kernel
theorem dX1_takeFill_76 : decode cX1_takeFill 76 = .ok (.aload_n 0, 1) := by decide +kernel
theorem dX1_takeFill_77 : decode cX1_takeFill 77 = .ok (.iconst 0, 1) := by decide +kernel
theorem dX1_takeFill_78 : decode cX1_takeFill 78 = .ok (.putfield 44, 3) := by decide +kernel
theorem dX1_takeFill_81 : decode cX1_takeFill 81 = .ok (.return_, 1) := by decide +kernel
theorem dX1_noteOf_0 : decode cX1_noteOf 0 = .ok (.iload_n 1, 1) := by decide +kernel
theorem dX1_noteOf_1 : decode cX1_noteOf 1 = .ok (.aload_n 0, 1) := by decide +kernel
theorem dX1_noteOf_2 : decode cX1_noteOf 2 = .ok (.getfield 41, 3) := by decide +kernel
theorem dX1_noteOf_5 : decode cX1_noteOf 5 = .ok (.aload_n 0, 1) := by decide +kernel
theorem dX1_noteOf_6 : decode cX1_noteOf 6 = .ok (.getfield 25, 3) := by decide +kernel
theorem dX1_noteOf_9 : decode cX1_noteOf 9 = .ok (.imul, 1) := by decide +kernel
theorem dX1_noteOf_10 : decode cX1_noteOf 10 = .ok (.aload_n 0, 1) := by decide +kernel
theorem dX1_noteOf_11 : decode cX1_noteOf 11 = .ok (.getfield 44, 3) := by decide +kernel
theorem dX1_noteOf_14 : decode cX1_noteOf 14 = .ok (.aload_n 0, 1) := by decide +kernel
theorem dX1_noteOf_15 : decode cX1_noteOf 15 = .ok (.getfield 28, 3) := by decide +kernel
theorem dX1_noteOf_18 : decode cX1_noteOf 18 = .ok (.imul, 1) := by decide +kernel
theorem dX1_noteOf_19 : decode cX1_noteOf 19 = .ok (.iadd, 1) := by decide +kernel
theorem dX1_noteOf_20 : decode cX1_noteOf 20 = .ok (.if_icmp .le 5, 3) := by decide +kernel
theorem dX1_noteOf_23 : decode cX1_noteOf 23 = .ok (.iconst 1, 1) := by decide +kernel
theorem dX1_noteOf_24 : decode cX1_noteOf 24 = .ok (.ireturn, 1) := by decide +kernel
theorem dX1_noteOf_25 : decode cX1_noteOf 25 = .ok (.iload_n 1, 1) := by decide +kernel
theorem dX1_noteOf_26 : decode cX1_noteOf 26 = .ok (.aload_n 0, 1) := by decide +kernel
theorem dX1_noteOf_27 : decode cX1_noteOf 27 = .ok (.getfield 41, 3) := by decide +kernel
theorem dX1_noteOf_30 : decode cX1_noteOf 30 = .ok (.aload_n 0, 1) := by decide +kernel
theorem dX1_noteOf_31 : decode cX1_noteOf 31 = .ok (.getfield 18, 3) := by decide +kernel
theorem dX1_noteOf_34 : decode cX1_noteOf 34 = .ok (.imul, 1) := by decide +kernel
theorem dX1_noteOf_35 : decode cX1_noteOf 35 = .ok (.aload_n 0, 1) := by decide +kernel
theorem dX1_noteOf_36 : decode cX1_noteOf 36 = .ok (.getfield 44, 3) := by decide +kernel
theorem dX1_noteOf_39 : decode cX1_noteOf 39 = .ok (.aload_n 0, 1) := by decide +kernel
theorem dX1_noteOf_40 : decode cX1_noteOf 40 = .ok (.getfield 22, 3) := by decide +kernel
theorem dX1_noteOf_43 : decode cX1_noteOf 43 = .ok (.imul, 1) := by decide +kernel
theorem dX1_noteOf_44 : decode cX1_noteOf 44 = .ok (.iadd, 1) := by decide +kernel
theorem dX1_noteOf_45 : decode cX1_noteOf 45 = .ok (.if_icmp .ge 15, 3) := by decide +kernel
theorem dX1_noteOf_48 : decode cX1_noteOf 48 = .ok (.iload_n 1, 1) := by decide +kernel
theorem dX1_noteOf_49 : decode cX1_noteOf 49 = .ok (.aload_n 0, 1) := by decide +kernel
theorem dX1_noteOf_50 : decode cX1_noteOf 50 = .ok (.getfield 53, 3) := by decide +kernel
theorem dX1_noteOf_53 : decode cX1_noteOf 53 = .ok (.if_icmp .ge 7, 3) := by decide +kernel
theorem dX1_noteOf_56 : decode cX1_noteOf 56 = .ok (.iconst 2, 1) := by decide +kernel
theorem dX1_noteOf_57 : decode cX1_noteOf 57 = .ok (.goto 4, 3) := by decide +kernel
theorem dX1_noteOf_60 : decode cX1_noteOf 60 = .ok (.iconst 0, 1) := by decide +kernel
theorem dX1_noteOf_61 : decode cX1_noteOf 61 = .ok (.ireturn, 1) := by decide +kernel
theorem dX1_narrow_0 : decode cX1_narrow 0 = .ok (.aload_n 0, 1) := by decide +kernel
theorem dX1_narrow_1 : decode cX1_narrow 1 = .ok (.aload_n 0, 1) := by decide +kernel
theorem dX1_narrow_2 : decode cX1_narrow 2 = .ok (.getfield 18, 3) := by decide +kernel
theorem dX1_narrow_5 : decode cX1_narrow 5 = .ok (.aload_n 0, 1) := by decide +kernel
theorem dX1_narrow_6 : decode cX1_narrow 6 = .ok (.getfield 25, 3) := by decide +kernel
theorem dX1_narrow_9 : decode cX1_narrow 9 = .ok (.iload_n 1, 1) := by decide +kernel
theorem dX1_narrow_10 : decode cX1_narrow 10 = .ok (.aload_n 0, 1) := by decide +kernel
theorem dX1_narrow_11 : decode cX1_narrow 11 = .ok (.getfield 44, 3) := by decide +kernel
theorem dX1_narrow_14 : decode cX1_narrow 14 = .ok (.aload_n 0, 1) := by decide +kernel
theorem dX1_narrow_15 : decode cX1_narrow 15 = .ok (.getfield 22, 3) := by decide +kernel
theorem dX1_narrow_18 : decode cX1_narrow 18 = .ok (.imul, 1) := by decide +kernel
theorem dX1_narrow_19 : decode cX1_narrow 19 = .ok (.isub, 1) := by decide +kernel
theorem dX1_narrow_20 : decode cX1_narrow 20 = .ok (.aload_n 0, 1) := by decide +kernel
theorem dX1_narrow_21 : decode cX1_narrow 21 = .ok (.getfield 41, 3) := by decide +kernel
theorem dX1_narrow_24 : decode cX1_narrow 24 = .ok (.invokestatic 85, 3) := by decide +kernel
theorem dX1_narrow_27 : decode cX1_narrow 27 = .ok (.invokestatic 75, 3) := by decide +kernel
theorem dX1_narrow_30 : decode cX1_narrow 30 = .ok (.invokestatic 66, 3) := by decide +kernel
theorem dX1_narrow_33 : decode cX1_narrow 33 = .ok (.putfield 25, 3) := by decide +kernel
theorem dX1_narrow_36 : decode cX1_narrow 36 = .ok (.aload_n 0, 1) := by decide +kernel
theorem dX1_narrow_37 : decode cX1_narrow 37 = .ok (.getfield 44, 3) := by decide +kernel
theorem dX1_narrow_40 : decode cX1_narrow 40 = .ok (.ifCond .le 39, 3) := by decide +kernel
theorem dX1_narrow_43 : decode cX1_narrow 43 = .ok (.aload_n 0, 1) := by decide +kernel
theorem dX1_narrow_44 : decode cX1_narrow 44 = .ok (.aload_n 0, 1) := by decide +kernel
theorem dX1_narrow_45 : decode cX1_narrow 45 = .ok (.getfield 22, 3) := by decide +kernel
theorem dX1_narrow_48 : decode cX1_narrow 48 = .ok (.aload_n 0, 1) := by decide +kernel
theorem dX1_narrow_49 : decode cX1_narrow 49 = .ok (.getfield 28, 3) := by decide +kernel
theorem dX1_narrow_52 : decode cX1_narrow 52 = .ok (.iload_n 1, 1) := by decide +kernel
theorem dX1_narrow_53 : decode cX1_narrow 53 = .ok (.aload_n 0, 1) := by decide +kernel
theorem dX1_narrow_54 : decode cX1_narrow 54 = .ok (.getfield 41, 3) := by decide +kernel
theorem dX1_narrow_57 : decode cX1_narrow 57 = .ok (.aload_n 0, 1) := by decide +kernel
theorem dX1_narrow_58 : decode cX1_narrow 58 = .ok (.getfield 18, 3) := by decide +kernel
theorem dX1_narrow_61 : decode cX1_narrow 61 = .ok (.imul, 1) := by decide +kernel
theorem dX1_narrow_62 : decode cX1_narrow 62 = .ok (.isub, 1) := by decide +kernel
theorem dX1_narrow_63 : decode cX1_narrow 63 = .ok (.aload_n 0, 1) := by decide +kernel
theorem dX1_narrow_64 : decode cX1_narrow 64 = .ok (.getfield 44, 3) := by decide +kernel
theorem dX1_narrow_67 : decode cX1_narrow 67 = .ok (.invokestatic 85, 3) := by decide +kernel
theorem dX1_narrow_70 : decode cX1_narrow 70 = .ok (.invokestatic 75, 3) := by decide +kernel
theorem dX1_narrow_73 : decode cX1_narrow 73 = .ok (.invokestatic 66, 3) := by decide +kernel
theorem dX1_narrow_76 : decode cX1_narrow 76 = .ok (.putfield 28, 3) := by decide +kernel
theorem dX1_narrow_79 : decode cX1_narrow 79 = .ok (.aload_n 0, 1) := by decide +kernel
theorem dX1_narrow_80 : decode cX1_narrow 80 = .ok (.aload_n 0, 1) := by decide +kernel
theorem dX1_narrow_81 : decode cX1_narrow 81 = .ok (.getfield 25, 3) := by decide +kernel
theorem dX1_narrow_84 : decode cX1_narrow 84 = .ok (.aload_n 0, 1) := by decide +kernel
theorem dX1_narrow_85 : decode cX1_narrow 85 = .ok (.getfield 18, 3) := by decide +kernel
theorem dX1_narrow_88 : decode cX1_narrow 88 = .ok (.iload_n 1, 1) := by decide +kernel
theorem dX1_narrow_89 : decode cX1_narrow 89 = .ok (.aload_n 0, 1) := by decide +kernel
theorem dX1_narrow_90 : decode cX1_narrow 90 = .ok (.getfield 44, 3) := by decide +kernel
theorem dX1_narrow_93 : decode cX1_narrow 93 = .ok (.aload_n 0, 1) := by decide +kernel
theorem dX1_narrow_94 : decode cX1_narrow 94 = .ok (.getfield 28, 3) := by decide +kernel
theorem dX1_narrow_97 : decode cX1_narrow 97 = .ok (.imul, 1) := by decide +kernel
theorem dX1_narrow_98 : decode cX1_narrow 98 = .ok (.isub, 1) := by decide +kernel
theorem dX1_narrow_99 : decode cX1_narrow 99 = .ok (.aload_n 0, 1) := by decide +kernel
theorem dX1_narrow_100 : decode cX1_narrow 100 = .ok (.getfield 41, 3) := by decide +kernel
theorem dX1_narrow_103 : decode cX1_narrow 103 = .ok (.invokestatic 88, 3) := by decide +kernel
theorem dX1_narrow_106 : decode cX1_narrow 106 = .ok (.invokestatic 66, 3) := by decide +kernel
theorem dX1_narrow_109 : decode cX1_narrow 109 = .ok (.invokestatic 75, 3) := by decide +kernel
theorem dX1_narrow_112 : decode cX1_narrow 112 = .ok (.putfield 18, 3) := by decide +kernel
theorem dX1_narrow_115 : decode cX1_narrow 115 = .ok (.aload_n 0, 1) := by decide +kernel
theorem dX1_narrow_116 : decode cX1_narrow 116 = .ok (.getfield 44, 3) := by decide +kernel
theorem dX1_narrow_119 : decode cX1_narrow 119 = .ok (.ifCond .le 39, 3) := by decide +kernel
theorem dX1_narrow_122 : decode cX1_narrow 122 = .ok (.aload_n 0, 1) := by decide +kernel
theorem dX1_narrow_123 : decode cX1_narrow 123 = .ok (.aload_n 0, 1) := by decide +kernel
theorem dX1_narrow_124 : decode cX1_narrow 124 = .ok (.getfield 28, 3) := by decide +kernel
theorem dX1_narrow_127 : decode cX1_narrow 127 = .ok (.aload_n 0, 1) := by decide +kernel
theorem dX1_narrow_128 : decode cX1_narrow 128 = .ok (.getfield 22, 3) := by decide +kernel
theorem dX1_narrow_131 : decode cX1_narrow 131 = .ok (.iload_n 1, 1) := by decide +kernel
theorem dX1_narrow_132 : decode cX1_narrow 132 = .ok (.aload_n 0, 1) := by decide +kernel
theorem dX1_narrow_133 : decode cX1_narrow 133 = .ok (.getfield 41, 3) := by decide +kernel
theorem dX1_narrow_136 : decode cX1_narrow 136 = .ok (.aload_n 0, 1) := by decide +kernel
theorem dX1_narrow_137 : decode cX1_narrow 137 = .ok (.getfield 25, 3) := by decide +kernel
theorem dX1_narrow_140 : decode cX1_narrow 140 = .ok (.imul, 1) := by decide +kernel
theorem dX1_narrow_141 : decode cX1_narrow 141 = .ok (.isub, 1) := by decide +kernel
theorem dX1_narrow_142 : decode cX1_narrow 142 = .ok (.aload_n 0, 1) := by decide +kernel
theorem dX1_narrow_143 : decode cX1_narrow 143 = .ok (.getfield 44, 3) := by decide +kernel
theorem dX1_narrow_146 : decode cX1_narrow 146 = .ok (.invokestatic 88, 3) := by decide +kernel
theorem dX1_narrow_149 : decode cX1_narrow 149 = .ok (.invokestatic 66, 3) := by decide +kernel
theorem dX1_narrow_152 : decode cX1_narrow 152 = .ok (.invokestatic 75, 3) := by decide +kernel
theorem dX1_narrow_155 : decode cX1_narrow 155 = .ok (.putfield 22, 3) := by decide +kernel
theorem dX1_narrow_158 : decode cX1_narrow 158 = .ok (.return_, 1) := by decide +kernel
theorem dX1_cut_0 : decode cX1_cut 0 = .ok (.iload_n 1, 1) := by decide +kernel
theorem dX1_cut_1 : decode cX1_cut 1 = .ok (.ifCond .gt 7, 3) := by decide +kernel
theorem dX1_cut_4 : decode cX1_cut 4 = .ok (.iconst 0, 1) := by decide +kernel
theorem dX1_cut_5 : decode cX1_cut 5 = .ok (.goto 6, 3) := by decide +kernel
theorem dX1_cut_8 : decode cX1_cut 8 = .ok (.iload_n 0, 1) := by decide +kernel
theorem dX1_cut_9 : decode cX1_cut 9 = .ok (.iload_n 1, 1) := by decide +kernel
theorem dX1_cut_10 : decode cX1_cut 10 = .ok (.idiv, 1) := by decide +kernel
theorem dX1_cut_11 : decode cX1_cut 11 = .ok (.ireturn, 1) := by decide +kernel
theorem dX1_roundedUp_0 : decode cX1_roundedUp 0 = .ok (.iload_n 1, 1) := by decide +kernel
theorem dX1_roundedUp_1 : decode cX1_roundedUp 1 = .ok (.ifCond .gt 7, 3) := by decide +kernel
theorem dX1_roundedUp_4 : decode cX1_roundedUp 4 = .ok (.iconst 0, 1) := by decide +kernel
theorem dX1_roundedUp_5 : decode cX1_roundedUp 5 = .ok (.goto 10, 3) := by decide +kernel
theorem dX1_roundedUp_8 : decode cX1_roundedUp 8 = .ok (.iload_n 0, 1) := by decide +kernel
theorem dX1_roundedUp_9 : decode cX1_roundedUp 9 = .ok (.ineg, 1) := by decide +kernel
theorem dX1_roundedUp_10 : decode cX1_roundedUp 10 = .ok (.iload_n 1, 1) := by decide +kernel
theorem dX1_roundedUp_11 : decode cX1_roundedUp 11 = .ok (.invokestatic 91, 3) := by decide +kernel
theorem dX1_roundedUp_14 : decode cX1_roundedUp 14 = .ok (.ineg, 1) := by decide +kernel
theorem dX1_roundedUp_15 : decode cX1_roundedUp 15 = .ok (.ireturn, 1) := by decide +kernel
theorem dX1_isOf_0 : decode cX1_isOf 0 = .ok (.iload_n 1, 1) := by decide +kernel
theorem dX1_isOf_1 : decode cX1_isOf 1 = .ok (.tableswitch 48 0 3 #[31, 33, 38, 43], 31) := by decide +kernel
theorem dX1_isOf_32 : decode cX1_isOf 32 = .ok (.iconst 1, 1) := by decide +kernel
theorem dX1_isOf_33 : decode cX1_isOf 33 = .ok (.ireturn, 1) := by decide +kernel
theorem dX1_isOf_34 : decode cX1_isOf 34 = .ok (.aload_n 0, 1) := by decide +kernel
theorem dX1_isOf_35 : decode cX1_isOf 35 = .ok (.invokevirtual 94, 3) := by decide +kernel
theorem dX1_isOf_38 : decode cX1_isOf 38 = .ok (.ireturn, 1) := by decide +kernel
theorem dX1_isOf_39 : decode cX1_isOf 39 = .ok (.aload_n 0, 1) := by decide +kernel
theorem dX1_isOf_40 : decode cX1_isOf 40 = .ok (.invokevirtual 98, 3) := by decide +kernel
theorem dX1_isOf_43 : decode cX1_isOf 43 = .ok (.ireturn, 1) := by decide +kernel
theorem dX1_isOf_44 : decode cX1_isOf 44 = .ok (.aload_n 0, 1) := by decide +kernel
theorem dX1_isOf_45 : decode cX1_isOf 45 = .ok (.invokevirtual 101, 3) := by decide +kernel
theorem dX1_isOf_48 : decode cX1_isOf 48 = .ok (.ireturn, 1) := by decide +kernel
theorem dX1_isOf_49 : decode cX1_isOf 49 = .ok (.iconst 0, 1) := by decide +kernel
theorem dX1_isOf_50 : decode cX1_isOf 50 = .ok (.ireturn, 1) := by decide +kernel
theorem dX1_toldKind_0 : decode cX1_toldKind 0 = .ok (.aload_n 0, 1) := by decide +kernel
theorem dX1_toldKind_1 : decode cX1_toldKind 1 = .ok (.invokevirtual 101, 3) := by decide +kernel
theorem dX1_toldKind_4 : decode cX1_toldKind 4 = .ok (.ifCond .eq 5, 3) := by decide +kernel
theorem dX1_toldKind_7 : decode cX1_toldKind 7 = .ok (.iconst 3, 1) := by decide +kernel
theorem dX1_toldKind_8 : decode cX1_toldKind 8 = .ok (.ireturn, 1) := by decide +kernel
theorem dX1_toldKind_9 : decode cX1_toldKind 9 = .ok (.aload_n 0, 1) := by decide +kernel
theorem dX1_toldKind_10 : decode cX1_toldKind 10 = .ok (.invokevirtual 98, 3) := by decide +kernel
theorem dX1_toldKind_13 : decode cX1_toldKind 13 = .ok (.ifCond .eq 5, 3) := by decide +kernel
theorem dX1_toldKind_16 : decode cX1_toldKind 16 = .ok (.iconst 2, 1) := by decide +kernel
theorem dX1_toldKind_17 : decode cX1_toldKind 17 = .ok (.ireturn, 1) := by decide +kernel
theorem dX1_toldKind_18 : decode cX1_toldKind 18 = .ok (.aload_n 0, 1) := by decide +kernel
theorem dX1_toldKind_19 : decode cX1_toldKind 19 = .ok (.invokevirtual 94, 3) := by decide +kernel
theorem dX1_toldKind_22 : decode cX1_toldKind 22 = .ok (.ifCond .eq 7, 3) := by decide +kernel
theorem dX1_toldKind_25 : decode cX1_toldKind 25 = .ok (.iconst 1, 1) := by decide +kernel
theorem dX1_toldKind_26 : decode cX1_toldKind 26 = .ok (.goto 4, 3) := by decide +kernel
theorem dX1_toldKind_29 : decode cX1_toldKind 29 = .ok (.iconst 0, 1) := by decide +kernel
theorem dX1_toldKind_30 : decode cX1_toldKind 30 = .ok (.ireturn, 1) := by decide +kernel
theorem dX1_isLeaky_0 : decode cX1_isLeaky 0 = .ok (.aload_n 0, 1) := by decide +kernel
theorem dX1_isLeaky_1 : decode cX1_isLeaky 1 = .ok (.getfield 34, 3) := by decide +kernel
theorem dX1_isLeaky_4 : decode cX1_isLeaky 4 = .ok (.iconst 1, 1) := by decide +kernel
theorem dX1_isLeaky_5 : decode cX1_isLeaky 5 = .ok (.if_icmp .ne 7, 3) := by decide +kernel
theorem dX1_isLeaky_8 : decode cX1_isLeaky 8 = .ok (.iconst 1, 1) := by decide +kernel
theorem dX1_isLeaky_9 : decode cX1_isLeaky 9 = .ok (.goto 4, 3) := by decide +kernel
theorem dX1_isLeaky_12 : decode cX1_isLeaky 12 = .ok (.iconst 0, 1) := by decide +kernel
theorem dX1_isLeaky_13 : decode cX1_isLeaky 13 = .ok (.ireturn, 1) := by decide +kernel
theorem dX1_isSteady_0 : decode cX1_isSteady 0 = .ok (.aload_n 0, 1) := by decide +kernel
theorem dX1_isSteady_1 : decode cX1_isSteady 1 = .ok (.invokevirtual 94, 3) := by decide +kernel
theorem dX1_isSteady_4 : decode cX1_isSteady 4 = .ok (.ifCond .eq 21, 3) := by decide +kernel
theorem dX1_isSteady_7 : decode cX1_isSteady 7 = .ok (.aload_n 0, 1) := by decide +kernel
theorem dX1_isSteady_8 : decode cX1_isSteady 8 = .ok (.getfield 22, 3) := by decide +kernel
theorem dX1_isSteady_11 : decode cX1_isSteady 11 = .ok (.ifCond .ne 14, 3) := by decide +kernel
theorem dX1_isSteady_14 : decode cX1_isSteady 14 = .ok (.aload_n 0, 1) := by decide +kernel
theorem dX1_isSteady_15 : decode cX1_isSteady 15 = .ok (.getfield 28, 3) := by decide +kernel
theorem dX1_isSteady_18 : decode cX1_isSteady 18 = .ok (.ifCond .ne 7, 3) := by decide +kernel
theorem dX1_isSteady_21 : decode cX1_isSteady 21 = .ok (.iconst 1, 1) := by decide +kernel
theorem dX1_isSteady_22 : decode cX1_isSteady 22 = .ok (.goto 4, 3) := by decide +kernel
theorem dX1_isSteady_25 : decode cX1_isSteady 25 = .ok (.iconst 0, 1) := by decide +kernel
theorem dX1_isSteady_26 : decode cX1_isSteady 26 = .ok (.ireturn, 1) := by decide +kernel
theorem dX1_isKnown_0 : decode cX1_isKnown 0 = .ok (.aload_n 0, 1) := by decide +kernel
theorem dX1_isKnown_1 : decode cX1_isKnown 1 = .ok (.getfield 31, 3) := by decide +kernel
theorem dX1_isKnown_4 : decode cX1_isKnown 4 = .ok (.iconst 3, 1) := by decide +kernel
theorem dX1_isKnown_5 : decode cX1_isKnown 5 = .ok (.if_icmp .lt 14, 3) := by decide +kernel
theorem dX1_isKnown_8 : decode cX1_isKnown 8 = .ok (.aload_n 0, 1) := by decide +kernel
theorem dX1_isKnown_9 : decode cX1_isKnown 9 = .ok (.getfield 37, 3) := by decide +kernel
theorem dX1_isKnown_12 : decode cX1_isKnown 12 = .ok (.ifCond .ne 7, 3) := by decide +kernel
theorem dX1_isKnown_15 : decode cX1_isKnown 15 = .ok (.iconst 1, 1) := by decide +kernel
theorem dX1_isKnown_16 : decode cX1_isKnown 16 = .ok (.goto 4, 3) := by decide +kernel
theorem dX1_isKnown_19 : decode cX1_isKnown 19 = .ok (.iconst 0, 1) := by decide +kernel
theorem dX1_isKnown_20 : decode cX1_isKnown 20 = .ok (.ireturn, 1) := by decide +kernel
theorem dX2_init_0 : decode cX2_init 0 = .ok (.aload_n 0, 1) := by decide +kernel
theorem dX2_init_1 : decode cX2_init 1 = .ok (.invokespecial 3, 3) := by decide +kernel
theorem dX2_init_4 : decode cX2_init 4 = .ok (.aload_n 0, 1) := by decide +kernel
theorem dX2_init_5 : decode cX2_init 5 = .ok (.iconst 0, 1) := by decide +kernel
theorem dX2_init_6 : decode cX2_init 6 = .ok (.putfield 9, 3) := by decide +kernel
theorem dX2_init_9 : decode cX2_init 9 = .ok (.aload_n 0, 1) := by decide +kernel
theorem dX2_init_10 : decode cX2_init 10 = .ok (.iconst 0, 1) := by decide +kernel
theorem dX2_init_11 : decode cX2_init 11 = .ok (.putfield 15, 3) := by decide +kernel
theorem dX2_init_14 : decode cX2_init 14 = .ok (.aload_n 0, 1) := by decide +kernel
theorem dX2_init_15 : decode cX2_init 15 = .ok (.iconst 0, 1) := by decide +kernel
theorem dX2_init_16 : decode cX2_init 16 = .ok (.putfield 18, 3) := by decide +kernel
theorem dX2_init_19 : decode cX2_init 19 = .ok (.return_, 1) := by decide +kernel
theorem dX2_become_0 : decode cX2_become 0 = .ok (.aload_n 0, 1) := by decide +kernel
theorem dX2_become_1 : decode cX2_become 1 = .ok (.iload_n 1, 1) := by decide +kernel
theorem dX2_become_2 : decode cX2_become 2 = .ok (.putfield 9, 3) := by decide +kernel
theorem dX2_become_5 : decode cX2_become 5 = .ok (.aload_n 0, 1) := by decide +kernel
theorem dX2_become_6 : decode cX2_become 6 = .ok (.iload_n 2, 1) := by decide +kernel
theorem dX2_become_7 : decode cX2_become 7 = .ok (.putfield 15, 3) := by decide +kernel
theorem dX2_become_10 : decode cX2_become 10 = .ok (.aload_n 0, 1) := by decide +kernel
theorem dX2_become_11 : decode cX2_become 11 = .ok (.iload_n 3, 1) := by decide +kernel
theorem dX2_become_12 : decode cX2_become 12 = .ok (.putfield 18, 3) := by decide +kernel
theorem dX2_become_15 : decode cX2_become 15 = .ok (.return_, 1) := by decide +kernel
theorem dX2_costOf_0 : decode cX2_costOf 0 = .ok (.aload_n 0, 1) := by decide +kernel
theorem dX2_costOf_1 : decode cX2_costOf 1 = .ok (.getfield 9, 3) := by decide +kernel
theorem dX2_costOf_4 : decode cX2_costOf 4 = .ok (.lookupswitch 60 #[(1, 28), (2, 39)], 28) := by decide +kernel
theorem dX2_costOf_32 : decode cX2_costOf 32 = .ok (.iload_n 1, 1) := by decide +kernel
theorem dX2_costOf_33 : decode cX2_costOf 33 = .ok (.iload_n 2, 1) := by decide +kernel
theorem dX2_costOf_34 : decode cX2_costOf 34 = .ok (.aload_n 0, 1) := by decide +kernel
theorem dX2_costOf_35 : decode cX2_costOf 35 = .ok (.getfield 18, 3) := by decide +kernel
theorem dX2_costOf_38 : decode cX2_costOf 38 = .ok (.invokestatic 21, 3) := by decide +kernel
theorem dX2_costOf_41 : decode cX2_costOf 41 = .ok (.imul, 1) := by decide +kernel
theorem dX2_costOf_42 : decode cX2_costOf 42 = .ok (.ireturn, 1) := by decide +kernel
theorem dX2_costOf_43 : decode cX2_costOf 43 = .ok (.aload_n 0, 1) := by decide +kernel
theorem dX2_costOf_44 : decode cX2_costOf 44 = .ok (.iload_n 1, 1) := by decide +kernel
theorem dX2_costOf_45 : decode cX2_costOf 45 = .ok (.invokevirtual 27, 3) := by decide +kernel
theorem dX2_costOf_48 : decode cX2_costOf 48 = .ok (.aload_n 0, 1) := by decide +kernel
theorem dX2_costOf_49 : decode cX2_costOf 49 = .ok (.getfield 18, 3) := by decide +kernel
theorem dX2_costOf_52 : decode cX2_costOf 52 = .ok (.imul, 1) := by decide +kernel
theorem dX2_costOf_53 : decode cX2_costOf 53 = .ok (.iload_n 1, 1) := by decide +kernel
theorem dX2_costOf_54 : decode cX2_costOf 54 = .ok (.aload_n 0, 1) := by decide +kernel
theorem dX2_costOf_55 : decode cX2_costOf 55 = .ok (.iload_n 1, 1) := by decide +kernel
theorem dX2_costOf_56 : decode cX2_costOf 56 = .ok (.invokevirtual 27, 3) := by decide +kernel
theorem dX2_costOf_59 : decode cX2_costOf 59 = .ok (.isub, 1) := by decide +kernel
theorem dX2_costOf_60 : decode cX2_costOf 60 = .ok (.iload_n 2, 1) := by decide +kernel
theorem dX2_costOf_61 : decode cX2_costOf 61 = .ok (.imul, 1) := by decide +kernel
theorem dX2_costOf_62 : decode cX2_costOf 62 = .ok (.iadd, 1) := by decide +kernel
theorem dX2_costOf_63 : decode cX2_costOf 63 = .ok (.ireturn, 1) := by decide +kernel
theorem dX2_costOf_64 : decode cX2_costOf 64 = .ok (.iload_n 1, 1) := by decide +kernel
theorem dX2_costOf_65 : decode cX2_costOf 65 = .ok (.iload_n 2, 1) := by decide +kernel
theorem dX2_costOf_66 : decode cX2_costOf 66 = .ok (.imul, 1) := by decide +kernel
theorem dX2_costOf_67 : decode cX2_costOf 67 = .ok (.ireturn, 1) := by decide +kernel
theorem dX2_useUp_0 : decode cX2_useUp 0 = .ok (.aload_n 0, 1) := by decide +kernel
theorem dX2_useUp_1 : decode cX2_useUp 1 = .ok (.dup, 1) := by decide +kernel
theorem dX2_useUp_2 : decode cX2_useUp 2 = .ok (.getfield 15, 3) := by decide +kernel
theorem dX2_useUp_5 : decode cX2_useUp 5 = .ok (.aload_n 0, 1) := by decide +kernel
theorem dX2_useUp_6 : decode cX2_useUp 6 = .ok (.iload_n 1, 1) := by decide +kernel
theorem dX2_useUp_7 : decode cX2_useUp 7 = .ok (.invokevirtual 27, 3) := by decide +kernel
theorem dX2_useUp_10 : decode cX2_useUp 10 = .ok (.isub, 1) := by decide +kernel
theorem dX2_useUp_11 : decode cX2_useUp 11 = .ok (.putfield 15, 3) := by decide +kernel
theorem dX2_useUp_14 : decode cX2_useUp 14 = .ok (.return_, 1) := by decide +kernel
theorem dX2_ahead_0 : decode cX2_ahead 0 = .ok (.iload_n 1, 1) := by decide +kernel
theorem dX2_ahead_1 : decode cX2_ahead 1 = .ok (.aload_n 0, 1) := by decide +kernel
theorem dX2_ahead_2 : decode cX2_ahead 2 = .ok (.getfield 15, 3) := by decide +kernel
theorem dX2_ahead_5 : decode cX2_ahead 5 = .ok (.invokestatic 21, 3) := by decide +kernel
theorem dX2_ahead_8 : decode cX2_ahead 8 = .ok (.ireturn, 1) := by decide +kernel
end
